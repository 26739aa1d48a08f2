/** Promise 5: record. */
public final class Promise05Test {
    public static void main(String[] args) {
        Due due = new Due("Promise05Test");
        TypeLoom x = new TypeLoom();
        x.constructor(0, 1);
        due.is("built(0)", x.built(0), 0);
        due.is("record(false) of nothing", x.record(false), 1);
        due.is("look(1, 0, 2)", x.look(1, 0L, 2), 0);
        due.is("look(1, 0, 3)", x.look(1, 0L, 3), 1);
        due.is("look(1, 0, 6)", x.look(1, 0L, 6), 0);
        due.is("look(1, 0, 4)", x.look(1, 0L, 4), TypeLoom.NONE);
        x.level(7);
        due.is("record(true) of nothing", x.record(true), 2);
        due.is("look(2, 0, 6)", x.look(2, 0L, 6), 1);
        due.is("look(2, 0, 4)", x.look(2, 0L, 4), 7);
        due.is("look(2, 0, 3)", x.look(2, 0L, 3), 0);
        due.is("count(7)", x.count(7), 1);
        x.rigid(true);
        x.push(9, 0);
        x.push(3, 3);
        due.is("record(true)", x.record(true), 4);
        due.is("count(2)", x.count(2), 0);
        due.is("count(4)", x.count(4), 2);
        due.is("label(4, 0, 0)", x.label(4, 0L, 0), 3);
        due.is("label(4, 0, 1)", x.label(4, 0L, 1), 9);
        due.is("same(4, 1, 3, 0)", x.same(4, 1L, 3, 0L), true);
        due.is("same(4, 2, 0, 0)", x.same(4, 2L, 0, 0L), true);
        x.push(1, 0);
        x.push(-1, 0);
        due.is("record(true) with an argument", x.record(true), TypeLoom.NONE);
        due.is("record(false) with an argument", x.record(false), TypeLoom.NONE);
        due.is("count(2)", x.count(2), 2);
        due.is("count(7)", x.count(7), 2);
        due.is("count(1)", x.count(1), 5);
        due.end();
    }
}
