/** Promise 8: rigid. */
public final class Promise08Test {
    public static void main(String[] args) {
        Due due = new Due("Promise08Test");
        TypeLoom x = new TypeLoom();
        due.is("rigid(false)", x.rigid(false), 0);
        x.level(100);
        due.is("rigid(true)", x.rigid(true), 1);
        for (int t = 0; t < 2; t++) {
            due.is("look(" + t + ", 0, 0)", x.look(t, 0L, 0), 1);
            due.is("look(" + t + ", 0, 2)", x.look(t, 0L, 2), 0);
            due.is("look(" + t + ", 0, 3)", x.look(t, 0L, 3), t);
            due.is("look(" + t + ", 0, 4)", x.look(t, 0L, 4), 100 * t);
            due.is("look(" + t + ", 0, 5)", x.look(t, 0L, 5), TypeLoom.NONE);
        }
        due.is("same(0, 0, 1, 0)", x.same(0, 0L, 1, 0L), false);
        due.is("same(1, 0, 1, 0)", x.same(1, 0L, 1, 0L), true);
        due.is("unify(0, 1)", x.unify(0, 1), false);
        due.is("unify(1, 1)", x.unify(1, 1), true);
        due.end();
    }
}
