/** Promise 14: scheme. */
public final class Promise14Test {
    private static final Due DUE = new Due("Promise14Test");

    public static void main(String[] args) {
        wrong();
        counts();
        rows();
        standsAsItWas();
        DUE.end();
    }

    private static void scheme(TypeLoom x, int t, int want) {
        DUE.is("scheme(" + t + ")", x.scheme(t), want);
    }

    private static void wrong() {
        TypeLoom x = new TypeLoom();
        x.constructor(0, 1);
        scheme(x, 0, -1);
        int plain = x.rigid(false);
        scheme(x, -1, -1);
        scheme(x, 1, -1);
        scheme(x, Integer.MAX_VALUE, -1);
        scheme(x, Integer.MIN_VALUE, -1);
        x.level(2);
        int set = x.variable(false, 1);
        int in = x.function(plain, x.function(set, plain));
        int row = x.record(true);
        int with = x.function(row, plain);
        scheme(x, set, 0);
        scheme(x, row, 1);
        x.level(1);
        scheme(x, set, -1);
        scheme(x, in, -1);
        scheme(x, row, -1);
        scheme(x, with, -1);
        DUE.is("count(3)", x.count(3), 2);
        DUE.is("count(5)", x.count(5), 2);
        x.level(2);
        scheme(x, in, 2);
        scheme(x, with, 3);
        DUE.is("quantified(2, 1)", x.quantified(2, 1), 0);
        DUE.is("quantified(3, 1)", x.quantified(3, 1), 0);
        x.level(0);
        // What they stand for now counts: neither is left.
        x.unify(set, x.built(0));
        x.unify(row, x.record(false));
        scheme(x, in, 4);
        scheme(x, with, 5);
    }

    private static void counts() {
        TypeLoom x = new TypeLoom();
        int zero = x.constructor(0, 1);
        int pair = x.constructor(2, 1);
        x.level(1);
        int v = x.variable(false, 0);
        x.level(0);
        int a = x.built(zero);
        int b = x.built(zero);
        int kept = x.variable(false, 0);
        x.push(-1, a);
        x.push(-1, v);
        int one = x.built(pair);
        x.push(-1, b);
        x.push(-1, v);
        int two = x.built(pair);
        x.push(1, one);
        x.push(2, two);
        x.push(3, kept);
        int all = x.record(false);
        // zero, v, pair, kept, the record: those that are the same are one.
        scheme(x, all, 0);
        DUE.is("count(3)", x.count(3), 1);
        DUE.is("count(5)", x.count(5), 5);
        DUE.is("count(6)", x.count(6), 5);
        DUE.is("quantified(0, 0)", x.quantified(0, 0), 1);
        DUE.is("quantified(0, 1)", x.quantified(0, 1), 0);
        scheme(x, a, 1);
        DUE.is("count(5)", x.count(5), 6);
        DUE.is("count(6)", x.count(6), 5);
        x.push(9, a);
        DUE.is("scheme with something pushed", x.scheme(a), 2);
        DUE.is("count(2)", x.count(2), 1);
        DUE.is("count(1)", x.count(1), 7);
    }

    private static void rows() {
        TypeLoom x = new TypeLoom();
        int a = x.rigid(false);
        x.push(2, a);
        int one = x.record(true);
        x.push(1, a);
        int two = x.record(true);
        x.unify(one, two);
        int both = x.function(one, two);
        scheme(x, both, 0);
        // The rigid one, one record of two fields, and the function.
        DUE.is("count(5)", x.count(5), 3);
        DUE.is("count(6)", x.count(6), 4);
        DUE.is("quantified(0, 1)", x.quantified(0, 1), 0);
    }

    private static void standsAsItWas() {
        TypeLoom x = new TypeLoom();
        x.level(1);
        int v = x.variable(false, 0);
        int w = x.variable(true, 0);
        int f = x.function(v, w);
        x.level(0);
        scheme(x, f, 0);
        x.unify(v, w);
        scheme(x, f, 1);
        DUE.is("quantified(0, 0)", x.quantified(0, 0), 2);
        DUE.is("quantified(0, 2)", x.quantified(0, 2), 1);
        DUE.is("quantified(1, 0)", x.quantified(1, 0), 1);
        int t = x.instance(0);
        DUE.is("same(t, 1, t, 2)", x.same(t, 1L, t, 2L), false);
        int u = x.instance(1);
        DUE.is("same(u, 1, u, 2)", x.same(u, 1L, u, 2L), true);
    }
}
