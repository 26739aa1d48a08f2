/** Promise 12: look. */
public final class Promise12Test {
    private static final Due DUE = new Due("Promise12Test");

    public static void main(String[] args) {
        TypeLoom x = new TypeLoom();
        int list = x.constructor(1, 1);
        int zero = x.constructor(0, 1);
        int never = x.constructor(1, 0);
        int always = x.constructor(1, 2);
        x.level(2);
        int v = x.variable(false, 2);
        int r = x.rigid(true);
        x.push(-1, v);
        int built = x.built(list);
        int f = x.function(built, r);
        x.push(4, f);
        x.push(2, v);
        int closed = x.record(false);
        x.level(3);
        x.push(2, r);
        int open = x.record(true);
        all(x, v, 0L, new int[] {0, -1, 0, 0, 2, 2, -1});
        all(x, r, 0L, new int[] {1, -1, 0, 1, 2, -1, -1});
        all(x, built, 0L, new int[] {2, list, 1, 0, -1, -1, -1});
        all(x, f, 0L, new int[] {3, -1, 2, 0, -1, -1, -1});
        all(x, closed, 0L, new int[] {4, -1, 2, 0, -1, -1, 0});
        all(x, open, 0L, new int[] {4, -1, 1, 0, 3, -1, 1});
        all(x, closed, 0x0102L, new int[] {2, list, 1, 0, -1, -1, -1});
        all(x, closed, 0x010102L, new int[] {0, -1, 0, 0, 2, 2, -1});
        all(x, closed, 0x0202L, new int[] {1, -1, 0, 1, 2, -1, -1});
        all(x, open, 1L, new int[] {1, -1, 0, 1, 2, -1, -1});
        int[] none = {-1, -1, -1, -1, -1, -1, -1};
        all(x, closed, 3L, none);
        all(x, v, 1L, none);
        all(x, r, 1L, none);
        all(x, -1, 0L, none);
        all(x, x.count(1), 0L, none);
        all(x, Integer.MAX_VALUE, 0L, none);
        all(x, f, -1L, none);
        for (int what : new int[] {-1, 7, 8, Integer.MAX_VALUE, Integer.MIN_VALUE}) {
            DUE.is("look(0, 0, " + what + ")", x.look(0, 0L, what), TypeLoom.NONE);
        }
        int b = x.built(zero);
        x.unify(v, b);
        all(x, v, 0L, new int[] {2, zero, 0, 1, -1, -1, -1});
        all(x, built, 0L, new int[] {2, list, 1, 1, -1, -1, -1});
        all(x, closed, 1L, new int[] {2, zero, 0, 1, -1, -1, -1});
        equality(x, v, f, never, always, list);
        DUE.end();
    }

    private static void all(TypeLoom x, int t, long path, int[] want) {
        for (int what = 0; what < want.length; what++) {
            DUE.is("look(" + t + ", " + path + ", " + what + ")", x.look(t, path, what), want[what]);
        }
    }

    private static int of(TypeLoom x, int constructor, int part) {
        x.push(-1, part);
        return x.built(constructor);
    }

    private static void equality(TypeLoom x, int admits, int f, int never, int always, int list) {
        int[][] due = {
            {of(x, never, admits), 0}, {of(x, always, admits), 1}, {of(x, always, f), 1},
            {of(x, list, admits), 1}, {of(x, list, f), 0}, {of(x, list, of(x, always, f)), 1},
            {of(x, list, of(x, never, admits)), 0}, {x.variable(true, 0), 1}, {x.variable(false, 0), 0},
            {of(x, list, x.variable(true, 0)), 1}, {of(x, list, x.variable(false, 0)), 0},
            {of(x, list, x.rigid(false)), 0},
        };
        for (int[] d : due) {
            DUE.is("look(" + d[0] + ", 0, 3)", x.look(d[0], 0L, 3), d[1]);
        }
        x.push(1, admits);
        int open = x.record(true);
        DUE.is("look(open, 0, 3)", x.look(open, 0L, 3), 0);
        DUE.is("unify(wish, open)", x.unify(x.variable(true, 0), open), true);
        DUE.is("look(open, 0, 3)", x.look(open, 0L, 3), 1);
        x.push(1, admits);
        DUE.is("look of a closed one", x.look(x.record(false), 0L, 3), 1);
        x.push(1, admits);
        x.push(2, f);
        DUE.is("look of one with a function", x.look(x.record(false), 0L, 3), 0);
    }
}
