/** Promise 16: instance. */
public final class Promise16Test {
    private static final Due DUE = new Due("Promise16Test");

    public static void main(String[] args) {
        order();
        alone();
        keptOnes();
        afterClear();
        DUE.end();
    }

    private static void instance(TypeLoom x, int s, int want) {
        DUE.is("instance(" + s + ")", x.instance(s), want);
    }

    private static void order() {
        TypeLoom x = new TypeLoom();
        int pair = x.constructor(2, 1);
        instance(x, 0, -1);
        x.level(3);
        int v = x.variable(true, 0);
        int r = x.rigid(false);
        int e = x.rigid(true);
        x.push(-1, e);
        x.push(-1, e);
        int ee = x.built(pair);
        x.push(9, x.function(v, ee));
        x.push(4, x.function(r, v));
        int t = x.record(false);
        x.level(1);
        x.scheme(t);
        int n = x.count(1);
        int parts = x.count(4);
        x.level(7);
        // By rising labels: r v (r -> v), then e (e, e) (v -> ..), then the record.
        instance(x, 0, n + 6);
        DUE.is("count(1)", x.count(1), n + 7);
        DUE.is("count(4)", x.count(4), parts + 8);
        int[] kinds = {0, 0, 3, 0, 2, 3, 4};
        int[] wishes = {0, 1, 0, 1, 1, 0, 0};
        for (int i = 0; i < 7; i++) {
            DUE.is("look(" + (n + i) + ", 0, 0)", x.look(n + i, 0L, 0), kinds[i]);
            DUE.is("look(" + (n + i) + ", 0, 3)", x.look(n + i, 0L, 3), wishes[i]);
            DUE.is("look(" + (n + i) + ", 0, 4)", x.look(n + i, 0L, 4), kinds[i] == 0 ? 7 : -1);
        }
        DUE.is("same(n + 2, 1, n, 0)", x.same(n + 2, 1L, n, 0L), true);
        DUE.is("same(n + 2, 2, n + 1, 0)", x.same(n + 2, 2L, n + 1, 0L), true);
        DUE.is("same(n + 5, 1, n + 1, 0)", x.same(n + 5, 1L, n + 1, 0L), true);
        DUE.is("same(n + 5, 0x102, n + 3, 0)", x.same(n + 5, 0x102L, n + 3, 0L), true);
        DUE.is("label(n + 6, 0, 0)", x.label(n + 6, 0L, 0), 4);
        DUE.is("label(n + 6, 0, 1)", x.label(n + 6, 0L, 1), 9);
        DUE.is("look(n + 6, 0, 6)", x.look(n + 6, 0L, 6), 0);
        DUE.is("unify(n, n + 3)", x.unify(n, n + 3), true);
        DUE.is("same(t, 0x101, n, 0)", x.same(t, 0x101L, n, 0L), false);
        instance(x, 0, n + 13);
        DUE.is("same(n, 0, n + 7, 0)", x.same(n, 0L, n + 7, 0L), false);
        instance(x, -1, -1);
        instance(x, 1, -1);
        instance(x, Integer.MAX_VALUE, -1);
        instance(x, Integer.MIN_VALUE, -1);
    }

    private static void alone() {
        TypeLoom x = new TypeLoom();
        x.constructor(0, 1);
        int v = x.variable(false, 0);
        int w = x.variable(false, 0);
        int r = x.rigid(false);
        int z = x.built(0);
        x.unify(v, w);
        DUE.is("scheme(v)", x.scheme(v), 0);
        DUE.is("scheme(w)", x.scheme(w), 1);
        DUE.is("scheme(r)", x.scheme(r), 2);
        DUE.is("scheme(z)", x.scheme(z), 3);
        instance(x, 0, v);
        instance(x, 1, w);
        instance(x, 2, r);
        instance(x, 3, 4);
        x.unify(v, r);
        DUE.is("scheme(w)", x.scheme(w), 4);
        instance(x, 0, v);
        instance(x, 1, w);
        instance(x, 4, w);
        DUE.is("count(1)", x.count(1), 5);
    }

    private static void keptOnes() {
        TypeLoom x = new TypeLoom();
        int kept = x.variable(false, 0);
        int row = x.record(true);
        x.level(1);
        int v = x.variable(false, 0);
        int r = x.rigid(false);
        x.level(0);
        int t = x.function(x.function(kept, v), x.function(row, r));
        int s = x.scheme(t);
        DUE.is("quantified(s, 0)", x.quantified(s, 0), 2);
        int n = x.count(1);
        // v, kept -> v, the record, r, row -> r, and the whole.
        instance(x, s, n + 5);
        DUE.is("same(n + 5, 0x101, kept, 0)", x.same(n + 5, 0x101L, kept, 0L), true);
        DUE.is("same(n + 5, 0x102, row, 0)", x.same(n + 5, 0x102L, row, 0L), true);
        DUE.is("same(n + 5, 0x201, v, 0)", x.same(n + 5, 0x201L, v, 0L), false);
        DUE.is("count(7)", x.count(7), 1);
        x.push(6, kept);
        x.unify(row, x.record(false));
        DUE.is("look(n + 5, 0x102, 2)", x.look(n + 5, 0x102L, 2), 1);
        x.unify(kept, x.rigid(true));
        int u = x.instance(s);
        DUE.is("look(u, 0x101, 0)", x.look(u, 0x101L, 0), 1);
        DUE.is("look(u, 0x10102, 0)", x.look(u, 0x10102L, 0), 1);
        DUE.is("look(u, 0x201, 0)", x.look(u, 0x201L, 0), 0);
        DUE.is("look(u, 0x202, 0)", x.look(u, 0x202L, 0), 0);
    }

    private static void afterClear() {
        TypeLoom x = new TypeLoom();
        int list = x.constructor(1, 1);
        x.level(1);
        x.push(-1, x.variable(true, 0));
        int t = x.built(list);
        x.push(8, t);
        t = x.record(false);
        x.level(0);
        x.scheme(t);
        DUE.is("clear(1, 1)", x.clear(1, 1), true);
        instance(x, 0, 2);
        DUE.is("look(2, 0x0101, 0)", x.look(2, 0x0101L, 0), 0);
        DUE.is("look(2, 0, 3)", x.look(2, 0L, 3), 1);
        DUE.is("look(2, 1, 1)", x.look(2, 1L, 1), list);
        DUE.is("label(2, 0, 0)", x.label(2, 0L, 0), 8);
    }
}
