/** Promise 1: a new object has no constructors, no types, nothing pushed. */
public final class Promise01Test {
    public static void main(String[] args) {
        Due due = new Due("Promise01Test");
        TypeLoom x = new TypeLoom();
        for (int what = 0; what <= 8; what++) {
            due.is("count(" + what + ")", x.count(what), 0);
        }
        due.is("built(0)", x.built(0), TypeLoom.NONE);
        due.is("push(-1, 0)", x.push(-1, 0), TypeLoom.NONE);
        due.is("function(0, 0)", x.function(0, 0), TypeLoom.NONE);
        due.is("unify(0, 0)", x.unify(0, 0), false);
        due.is("same(0, 0, 0, 0)", x.same(0, 0L, 0, 0L), false);
        due.is("look(0, 0, 0)", x.look(0, 0L, 0), TypeLoom.NONE);
        due.is("label(0, 0, 0)", x.label(0, 0L, 0), TypeLoom.NONE);
        due.is("scheme(0)", x.scheme(0), TypeLoom.NONE);
        due.is("quantified(0, 0)", x.quantified(0, 0), TypeLoom.NONE);
        due.is("instance(0)", x.instance(0), TypeLoom.NONE);
        due.is("alike(0, 0)", x.alike(0, 0), false);
        due.is("clear(0, 0)", x.clear(0, 0), true);
        due.is("NONE", TypeLoom.NONE, -1);
        due.is("FULL", TypeLoom.FULL, -2);
        x.rigid(true);
        due.is("another object's count(1)", new TypeLoom().count(1), 0);
        due.end();
    }
}
