/** Promise 15: quantified. */
public final class Promise15Test {
    private static final Due DUE = new Due("Promise15Test");

    public static void main(String[] args) {
        TypeLoom x = new TypeLoom();
        x.constructor(0, 1);
        ask(x, 0, -1, -1, -1);
        x.level(2);
        int v = x.variable(false, 0);
        int w = x.variable(true, 0);
        int r = x.rigid(true);
        int s = x.rigid(false);
        x.level(1);
        int at = x.variable(true, 0);
        int rigid = x.rigid(true);
        int open = x.record(true);
        int zero = x.built(0);
        int all = x.function(x.function(v, w), x.function(r, x.function(s, v)));
        x.scheme(all);
        ask(x, 0, 4, 1, 2);
        x.scheme(x.function(all, at));
        ask(x, 1, 4, 0, 2);
        x.scheme(x.function(all, rigid));
        ask(x, 2, 4, 0, 2);
        x.scheme(x.function(all, open));
        ask(x, 3, 4, 0, 2);
        x.scheme(zero);
        ask(x, 4, 0, 1, 0);
        x.scheme(at);
        ask(x, 5, 0, 0, 0);
        x.level(2);
        x.scheme(all);
        ask(x, 6, 0, 0, 0);
        x.level(0);
        x.scheme(at);
        ask(x, 7, 1, 1, 1);
        // Nothing that comes later changes it.
        x.unify(v, zero);
        x.unify(at, zero);
        ask(x, 0, 4, 1, 2);
        ask(x, 5, 0, 0, 0);
        ask(x, -1, -1, -1, -1);
        ask(x, 8, -1, -1, -1);
        ask(x, Integer.MAX_VALUE, -1, -1, -1);
        ask(x, Integer.MIN_VALUE, -1, -1, -1);
        for (int what : new int[] {-1, 3, Integer.MAX_VALUE, Integer.MIN_VALUE}) {
            DUE.is("quantified(0, " + what + ")", x.quantified(0, what), TypeLoom.NONE);
        }
        DUE.end();
    }

    private static void ask(TypeLoom x, int s, int... want) {
        for (int what = 0; what < want.length; what++) {
            DUE.is("quantified(" + s + ", " + what + ")", x.quantified(s, what), want[what]);
        }
    }
}
