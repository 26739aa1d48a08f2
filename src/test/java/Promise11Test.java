/** Promise 11: same. */
public final class Promise11Test {
    private static final Due DUE = new Due("Promise11Test");

    public static void main(String[] args) {
        TypeLoom x = new TypeLoom();
        int list = x.constructor(1, 1);
        int zero = x.constructor(0, 1);
        int other = x.constructor(0, 1);
        int a = x.built(zero);
        int b = x.built(zero);
        int c = x.built(other);
        same(x, a, 0L, b, 0L, true);
        same(x, a, 0L, c, 0L, false);
        int v = x.variable(false, 0);
        int w = x.variable(false, 0);
        same(x, v, 0L, w, 0L, false);
        same(x, v, 0L, v, 0L, true);
        x.push(-1, v);
        int lv = x.built(list);
        x.push(-1, v);
        int again = x.built(list);
        x.push(-1, w);
        int lw = x.built(list);
        same(x, lv, 0L, again, 0L, true);
        same(x, lv, 0L, lw, 0L, false);
        same(x, lv, 1L, v, 0L, true);
        same(x, lv, 1L, lw, 1L, false);
        x.unify(v, w);
        same(x, lv, 0L, lw, 0L, true);
        int f = x.function(lv, a);
        int g = x.function(lw, b);
        same(x, f, 0L, g, 0L, true);
        same(x, f, 0L, x.function(a, lv), 0L, false);
        same(x, f, 0x101L, v, 0L, true);
        same(x, f, 2L, g, 2L, true);
        same(x, f, 3L, g, 3L, false);
        same(x, f, 2L, g, 0x102L, false);
        same(x, f, 0L, lv, 0L, false);
        records(x, a, b, v);
        same(x, -1, 0L, a, 0L, false);
        same(x, x.variable(false, 0), 0L, -1, 0L, false);
        same(x, -1, 0L, x.variable(false, 0), 0L, false);
        same(x, 0, 7L, x.variable(false, 0), 0L, false);
        same(x, x.count(1) - 1, 0L, 0, 7L, false);
        same(x, a, 0L, x.count(1), 0L, false);
        same(x, x.count(1), 0L, x.count(1), 0L, false);
        same(x, Integer.MIN_VALUE, 0L, Integer.MIN_VALUE, 0L, false);
        same(x, a, -1L, a, -1L, false);
        // What is behind the first byte that is 0 leads nowhere.
        same(x, f, 0x0500L, f, 0L, true);
        same(x, f, 0x050001L, lv, Long.MIN_VALUE, true);
        longPaths();
        DUE.end();
    }

    private static void same(TypeLoom x, int t, long path, int u, long other, boolean want) {
        DUE.is("same(" + t + ", " + path + ", " + u + ", " + other + ")", x.same(t, path, u, other), want);
    }

    private static void records(TypeLoom x, int a, int b, int v) {
        x.push(1, a);
        x.push(2, v);
        int one = x.record(false);
        x.push(2, v);
        x.push(1, b);
        int two = x.record(false);
        same(x, one, 0L, two, 0L, true);
        x.push(1, b);
        x.push(3, v);
        int three = x.record(false);
        same(x, one, 0L, three, 0L, false);
        x.push(1, a);
        int less = x.record(false);
        same(x, one, 0L, less, 0L, false);
        x.push(1, a);
        x.push(2, v);
        int open = x.record(true);
        x.push(1, a);
        x.push(2, v);
        int twin = x.record(true);
        same(x, one, 0L, open, 0L, false);
        same(x, open, 0L, twin, 0L, false);
        x.push(2, v);
        int part = x.record(true);
        x.unify(part, open);
        same(x, part, 0L, open, 0L, true);
        same(x, part, 0L, twin, 0L, false);
        x.unify(twin, one);
        same(x, twin, 0L, two, 0L, true);
        same(x, open, 1L, twin, 1L, true);
    }

    private static void longPaths() {
        TypeLoom x = new TypeLoom();
        int t = x.rigid(false);
        for (int i = 0; i < 9; i++) {
            t = x.function(t, t);
        }
        same(x, t, 0x0102010201020102L, 1, 0L, true);
        same(x, t, 0x0202020202020202L, 1, 0L, true);
        same(x, t, 0x0002020202020202L, 2, 0L, true);
        same(x, t, 0x0302020202020202L, 1, 0L, false);
        for (int i = 0; i < 128; i++) {
            x.push(i, i == 127 ? t : 0);
        }
        int wide = x.record(false);
        same(x, wide, 0x80L, t, 0L, true);
        same(x, wide, 0x7FL, 0, 0L, true);
        same(x, wide, 0x81L, 0, 0L, false);
        same(x, wide, 0xFFL, 0, 0L, false);
        int deep = x.function(wide, wide);
        for (int i = 0; i < 6; i++) {
            deep = x.function(deep, deep);
        }
        same(x, deep, 0x8001010101010101L, t, 0L, true);
        same(x, deep, 0x8001010101010101L, 0, 0L, false);
        same(x, deep, 0x0101010101010101L, 0, 0L, true);
        same(x, deep, 0x0001010101010101L, wide, 0L, true);
    }
}
