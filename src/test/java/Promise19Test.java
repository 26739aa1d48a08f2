/** Promise 19: count. */
public final class Promise19Test {
    private static final Due DUE = new Due("Promise19Test");

    public static void main(String[] args) {
        TypeLoom x = new TypeLoom();
        counts(x, 0, 0, 0, 0, 0, 0, 0, 0, 0);
        x.constructor(2, 1);
        x.constructor(9, 1);
        x.constructor(0, 1);
        counts(x, 2, 0, 0, 0, 0, 0, 0, 0, 0);
        x.level(1);
        x.variable(false, 0);
        x.rigid(false);
        counts(x, 2, 2, 0, 0, 0, 0, 0, 0, 1);
        x.push(-1, 0);
        x.push(-1, 1);
        counts(x, 2, 2, 2, 0, 0, 0, 0, 0, 1);
        x.built(0);
        counts(x, 2, 3, 0, 0, 2, 0, 0, 0, 1);
        x.function(0, 2);
        counts(x, 2, 4, 0, 0, 4, 0, 0, 0, 1);
        x.push(5, 3);
        x.push(6, 3);
        x.push(7, 0);
        x.record(false);
        counts(x, 2, 5, 0, 0, 7, 0, 0, 0, 1);
        x.level(0);
        x.scheme(4);
        counts(x, 2, 5, 0, 1, 7, 5, 7, 0, 0);
        x.push(8, 1);
        x.record(true);
        x.push(9, 1);
        x.record(true);
        counts(x, 2, 7, 0, 1, 9, 5, 7, 2, 0);
        // Fields and rows that come by unify() count for nothing.
        DUE.is("unify(5, 6)", x.unify(5, 6), false);
        DUE.is("unify(0, 1)", x.unify(0, 1), true);
        x.level(1);
        x.push(8, 1);
        x.record(true);
        x.push(9, 1);
        x.record(true);
        DUE.is("unify(7, 8)", x.unify(7, 8), true);
        counts(x, 2, 9, 0, 1, 11, 5, 7, 4, 1);
        x.instance(0);
        counts(x, 2, 14, 0, 1, 18, 5, 7, 4, 1);
        x.scheme(0);
        counts(x, 2, 14, 0, 2, 18, 6, 7, 4, 1);
        x.clear(2, 1);
        counts(x, 2, 0, 0, 1, 0, 5, 7, 0, 0);
        for (int what : new int[] {-1, 9, Integer.MAX_VALUE, Integer.MIN_VALUE}) {
            DUE.is("count(" + what + ")", x.count(what), TypeLoom.NONE);
        }
        DUE.end();
    }

    private static void counts(TypeLoom x, int... want) {
        for (int what = 0; what < want.length; what++) {
            DUE.is("count(" + what + ")", x.count(what), want[what]);
        }
    }
}
