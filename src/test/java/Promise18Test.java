/** Promise 18: clear. */
public final class Promise18Test {
    private static final Due DUE = new Due("Promise18Test");

    public static void main(String[] args) {
        TypeLoom x = new TypeLoom();
        x.constructor(0, 1);
        x.constructor(1, 1);
        x.constructor(2, 1);
        x.level(1);
        int v = x.variable(false, 0);
        x.push(-1, v);
        int list = x.built(1);
        x.push(-1, list);
        x.push(-1, v);
        int pair = x.built(2);
        x.level(0);
        int kept = x.variable(false, 0);
        x.scheme(v);
        x.scheme(list);
        x.scheme(pair);
        x.scheme(kept);
        x.scheme(list);
        x.level(5);
        x.push(3, v);
        x.push(-1, v);
        x.record(true);
        clear(x, -1, 0, false);
        clear(x, 0, -1, false);
        clear(x, 4, 0, false);
        clear(x, 3, 6, false);
        clear(x, Integer.MAX_VALUE, 0, false);
        clear(x, 0, Integer.MIN_VALUE, false);
        clear(x, 0, Integer.MAX_VALUE, false);
        clear(x, 3, 4, false);
        clear(x, 3, 5, false);
        clear(x, 2, 3, false);
        clear(x, 1, 2, false);
        int[] before = {3, 4, 2, 5, 3, 9, 5, 0, 5};
        counts(x, before);
        clear(x, 2, 2, true);
        counts(x, new int[] {2, 0, 0, 2, 0, 3, 1, 0, 0});
        DUE.is("built(2)", x.built(2), -1);
        DUE.is("look(0, 0, 0)", x.look(0, 0L, 0), -1);
        DUE.is("quantified(2, 0)", x.quantified(2, 0), -1);
        DUE.is("constructor(0, 0)", x.constructor(0, 0), 2);
        DUE.is("instance(1)", x.instance(1), 1);
        DUE.is("look(1, 0, 1)", x.look(1, 0L, 1), 1);
        DUE.is("scheme(1)", x.scheme(1), 2);
        DUE.is("quantified(2, 1)", x.quantified(2, 1), 0);
        DUE.is("alike(0, 1)", x.alike(0, 1), false);
        clear(x, 3, 3, false);
        clear(x, 3, 1, true);
        counts(x, new int[] {3, 0, 0, 1, 0, 1, 0, 0, 0});
        DUE.is("instance(0)", x.instance(0), 0);
        // Schemes that are numbered like those before have nothing of them.
        DUE.is("scheme(0)", x.scheme(0), 1);
        DUE.is("scheme(built)", x.scheme(x.built(0)), 2);
        for (int what = 0; what <= 2; what++) {
            DUE.is("quantified(1, " + what + ")", x.quantified(1, what), 0);
            DUE.is("quantified(2, " + what + ")", x.quantified(2, what), what == 1 ? 1 : 0);
        }
        DUE.is("instance(1)", x.instance(1), 0);
        DUE.is("instance(2)", x.instance(2), 2);
        x.record(true);
        DUE.is("count(7)", x.count(7), 1);
        clear(x, 0, 1, true);
        counts(x, new int[] {0, 0, 0, 1, 0, 1, 0, 0, 0});
        clear(x, 0, 0, true);
        counts(x, new int[9]);
        // What was told of a constructor that went is forgotten.
        DUE.is("constructor(3, 0)", x.constructor(3, 0), 0);
        DUE.is("built(0)", x.built(0), -1);
        DUE.is("variable(false, 1)", x.variable(false, 1), -1);
        nothingStays();
        DUE.end();
    }

    private static void clear(TypeLoom x, int constructors, int schemes, boolean want) {
        DUE.is("clear(" + constructors + ", " + schemes + ")", x.clear(constructors, schemes), want);
    }

    private static void counts(TypeLoom x, int[] want) {
        for (int what = 0; what < want.length; what++) {
            DUE.is("count(" + what + ")", x.count(what), want[what]);
        }
    }

    /** Types that are numbered like those before have nothing of them. */
    private static void nothingStays() {
        TypeLoom x = new TypeLoom();
        x.constructor(0, 1);
        for (int turn = 0; turn < 3; turn++) {
            int v = x.variable(false, 0);
            int w = x.variable(false, 0);
            int one = x.record(true);
            x.push(1, v);
            int two = x.record(true);
            DUE.is("same(v, 0, w, 0)", x.same(v, 0L, w, 0L), false);
            DUE.is("look(one, 0, 2)", x.look(one, 0L, 2), 0);
            DUE.is("look(v, 0, 3)", x.look(v, 0L, 3), 0);
            DUE.is("unify(one, two)", x.unify(one, two), true);
            DUE.is("look(one, 0, 2)", x.look(one, 0L, 2), 1);
            DUE.is("unify(v, w)", x.unify(v, w), true);
            DUE.is("unify(wish, v)", x.unify(x.variable(true, 1), v), true);
            DUE.is("look(w, 0, 5)", x.look(w, 0L, 5), 1);
            clear(x, 1, 0, true);
        }
    }
}
