/** Promise 6: function. */
public final class Promise06Test {
    public static void main(String[] args) {
        Due due = new Due("Promise06Test");
        TypeLoom x = new TypeLoom();
        due.is("function(0, 0)", x.function(0, 0), TypeLoom.NONE);
        x.rigid(true);
        x.rigid(true);
        due.is("function(0, 1)", x.function(0, 1), 2);
        due.is("function(2, 2)", x.function(2, 2), 3);
        due.is("function(4, 0)", x.function(4, 0), TypeLoom.NONE);
        due.is("function(0, 4)", x.function(0, 4), TypeLoom.NONE);
        due.is("function(-1, 0)", x.function(-1, 0), TypeLoom.NONE);
        due.is("function(0, MIN)", x.function(0, Integer.MIN_VALUE), TypeLoom.NONE);
        due.is("look(2, 0, 0)", x.look(2, 0L, 0), 3);
        due.is("look(2, 0, 2)", x.look(2, 0L, 2), 2);
        due.is("look(2, 0, 3)", x.look(2, 0L, 3), 0);
        due.is("same(3, 0x101, 0, 0)", x.same(3, 0x101L, 0, 0L), true);
        due.is("same(3, 0x201, 1, 0)", x.same(3, 0x201L, 1, 0L), true);
        due.is("count(4)", x.count(4), 4);
        x.push(-1, 0);
        due.is("function(0, 0) with something pushed", x.function(0, 0), 4);
        due.is("count(2)", x.count(2), 1);
        due.end();
    }
}
