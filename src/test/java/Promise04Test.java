/** Promise 4: built. */
public final class Promise04Test {
    public static void main(String[] args) {
        Due due = new Due("Promise04Test");
        TypeLoom x = new TypeLoom();
        x.constructor(0, 1);
        x.constructor(3, 1);
        due.is("built(0)", x.built(0), 0);
        due.is("built(2)", x.built(2), TypeLoom.NONE);
        due.is("built(-1)", x.built(-1), TypeLoom.NONE);
        due.is("built(MAX)", x.built(Integer.MAX_VALUE), TypeLoom.NONE);
        due.is("built(MIN)", x.built(Integer.MIN_VALUE), TypeLoom.NONE);
        due.is("built(1) of none", x.built(1), TypeLoom.NONE);
        due.is("rigid(false)", x.rigid(false), 1);
        due.is("variable(false, 0)", x.variable(false, 0), 2);
        x.push(-1, 1);
        x.push(-1, 0);
        due.is("built(1) of two", x.built(1), TypeLoom.NONE);
        due.is("built(0) of two", x.built(0), TypeLoom.NONE);
        due.is("count(2)", x.count(2), 2);
        x.push(-1, 2);
        due.is("built(1)", x.built(1), 3);
        due.is("count(2)", x.count(2), 0);
        due.is("count(4)", x.count(4), 3);
        due.is("same(3, 1, 1, 0)", x.same(3, 1L, 1, 0L), true);
        due.is("same(3, 2, 0, 0)", x.same(3, 2L, 0, 0L), true);
        due.is("same(3, 3, 2, 0)", x.same(3, 3L, 2, 0L), true);
        due.is("look(3, 0, 0)", x.look(3, 0L, 0), 2);
        due.is("look(3, 0, 1)", x.look(3, 0L, 1), 1);
        for (int i = 0; i < 4; i++) {
            x.push(-1, 0);
        }
        due.is("built(1) of four", x.built(1), TypeLoom.NONE);
        x.clear(2, 0);
        x.built(0);
        x.push(-1, 0);
        x.push(-1, 0);
        x.push(0, 0);
        due.is("built(1) with a field", x.built(1), TypeLoom.NONE);
        due.is("count(2)", x.count(2), 3);
        due.is("count(1)", x.count(1), 1);
        due.end();
    }
}
