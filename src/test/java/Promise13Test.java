/** Promise 13: label. */
public final class Promise13Test {
    private static final Due DUE = new Due("Promise13Test");

    public static void main(String[] args) {
        TypeLoom x = new TypeLoom();
        int list = x.constructor(1, 1);
        int a = x.rigid(false);
        x.push(32767, a);
        x.push(0, a);
        x.push(77, a);
        int one = x.record(true);
        label(x, one, 0L, 0, 0);
        label(x, one, 0L, 1, 77);
        label(x, one, 0L, 2, 32767);
        label(x, one, 0L, 3, -1);
        label(x, one, 0L, -1, -1);
        label(x, one, 0L, Integer.MAX_VALUE, -1);
        label(x, one, 0L, Integer.MIN_VALUE, -1);
        x.push(-1, one);
        int built = x.built(list);
        label(x, built, 1L, 1, 77);
        label(x, built, 0L, 0, -1);
        label(x, built, 2L, 0, -1);
        label(x, built, 0x0101L, 0, -1);
        label(x, a, 0L, 0, -1);
        label(x, x.function(a, a), 0L, 0, -1);
        label(x, x.variable(false, 0), 0L, 0, -1);
        label(x, x.record(false), 0L, 0, -1);
        label(x, -1, 0L, 0, -1);
        label(x, x.count(1), 0L, 0, -1);
        x.push(5, a);
        x.push(100, a);
        int two = x.record(true);
        int v = x.variable(false, 0);
        x.unify(v, two);
        label(x, v, 0L, 1, 100);
        x.unify(one, v);
        x.push(50, a);
        x.unify(two, x.record(true));
        int[] all = {0, 5, 50, 77, 100, 32767};
        for (int i = 0; i < all.length; i++) {
            label(x, one, 0L, i, all[i]);
            label(x, v, 0L, i, all[i]);
            label(x, built, 1L, i, all[i]);
        }
        label(x, two, 0L, all.length, -1);
        DUE.end();
    }

    private static void label(TypeLoom x, int t, long path, int i, int want) {
        DUE.is("label(" + t + ", " + path + ", " + i + ")", x.label(t, path, i), want);
    }
}
