/** Promise 17: alike. */
public final class Promise17Test {
    private static final Due DUE = new Due("Promise17Test");

    public static void main(String[] args) {
        TypeLoom x = new TypeLoom();
        int list = x.constructor(1, 1);
        int other = x.constructor(1, 1);
        x.level(1);
        int v = x.variable(false, 0);
        int w = x.variable(false, 0);
        int r = x.rigid(false);
        int e = x.variable(true, 0);
        int q = x.rigid(true);
        x.level(0);
        int kept = x.variable(false, 0);
        // By groups: those of one group are alike, others are not.
        int[][] groups = {
            {x.function(v, w), x.function(w, v), x.function(r, v), x.function(v, r)},
            {x.function(v, v), x.function(r, r)},
            {x.function(v, x.function(w, v)), x.function(w, x.function(r, w))},
            {x.function(v, x.function(w, w))},
            {x.function(v, x.function(v, w))},
            {x.function(e, v), x.function(q, r), x.function(q, v)},
            {x.function(v, e), x.function(r, q)},
            {x.function(e, q), x.function(q, e)},
            {x.function(q, q), x.function(e, e)},
            {of(x, list, v), of(x, list, r)},
            {of(x, other, v)},
            {of(x, list, of(x, list, v))},
            {fields(x, 1, v, 2, w), fields(x, 1, w, 2, r)},
            {fields(x, 1, v, 3, w)},
            {fields(x, 1, v, 2, v)},
            {fields(x, 1, v)},
            {fields(x), fields(x)},
            {v, w, r},
            {e, q},
        };
        int made = 0;
        int[] group = new int[60];
        for (int g = 0; g < groups.length; g++) {
            for (int t : groups[g]) {
                DUE.is("scheme(" + t + ")", x.scheme(t), made);
                group[made] = g;
                made++;
            }
        }
        for (int s = 0; s < made; s++) {
            for (int z = s; z < made; z += z < s + 6 ? 1 : 3) {
                DUE.is("alike(" + s + ", " + z + ")", x.alike(s, z), group[s] == group[z]);
            }
        }
        int open = x.scheme(x.function(kept, v));
        DUE.is("alike(open, open)", x.alike(open, open), false);
        DUE.is("alike(0, open)", x.alike(0, open), false);
        int row = x.scheme(x.record(true));
        DUE.is("alike(row, row)", x.alike(row, row), false);
        DUE.is("alike(-1, 0)", x.alike(-1, 0), false);
        DUE.is("alike(0, -1)", x.alike(0, -1), false);
        DUE.is("alike(0, count)", x.alike(0, x.count(3)), false);
        DUE.is("alike(MAX, MAX)", x.alike(Integer.MAX_VALUE, Integer.MAX_VALUE), false);
        DUE.is("alike(MIN, 0)", x.alike(Integer.MIN_VALUE, 0), false);
        DUE.end();
    }

    private static int of(TypeLoom x, int constructor, int part) {
        x.push(-1, part);
        return x.built(constructor);
    }

    private static int fields(TypeLoom x, int... fields) {
        for (int i = 0; i + 1 < fields.length; i += 2) {
            x.push(fields[i], fields[i + 1]);
        }
        return x.record(false);
    }
}
