/** The limits that can be reached in 512 calls; types that are very deep, or share very much. */
public final class LimitsTest {
    private static final Due DUE = new Due("LimitsTest");

    public static void main(String[] args) {
        types();
        parts();
        deepTypes();
        sharing();
        wideRows();
        manyTimes();
        manyFailures();
        manyFailuresWhenFull();
        DUE.end();
    }

    /** Schemes from one on, each a function from an instance of the one before to another; their number. */
    private static int doubles(TypeLoom x, int first) {
        int s = first;
        for (int i = 0; i < 20; i++) {
            x.level(1);
            int one = x.instance(s);
            int two = x.instance(s);
            int t = x.function(one, two);
            x.level(0);
            int next = x.scheme(t);
            if (next < 0) {
                return s + 1;
            }
            s = next;
        }
        return -1;
    }

    private static void types() {
        TypeLoom x = new TypeLoom();
        x.constructor(0, 1);
        x.level(1);
        x.variable(false, 0);
        x.level(0);
        x.scheme(0);
        DUE.is("schemes", doubles(x, 0), 13);
        DUE.is("count(5)", x.count(5), 16369);
        DUE.is("count(6)", x.count(6), 16356);
        // One more instance was made; another would have been too many.
        DUE.is("count(1)", x.count(1), 16369 + 8191);
        DUE.is("scheme(24559)", x.scheme(24559), TypeLoom.FULL);
        DUE.is("count(5)", x.count(5), 16369);
        DUE.is("count(6)", x.count(6), 16356);
        for (int i = 0; i < 15; i++) {
            DUE.is("scheme(0)", x.scheme(0), 13 + i);
        }
        DUE.is("count(5)", x.count(5), 16384);
        DUE.is("scheme(0)", x.scheme(0), TypeLoom.FULL);
        DUE.is("scheme(-1)", x.scheme(-1), TypeLoom.NONE);
        DUE.is("count(3)", x.count(3), 28);
        DUE.is("clear(1, 13)", x.clear(1, 13), true);
        DUE.is("count(5)", x.count(5), 16369);
        for (int i = 1; i <= 3; i++) {
            DUE.is("instance(12)", x.instance(12), 8191 * i - 1);
        }
        DUE.is("instance(12)", x.instance(12), TypeLoom.FULL);
        DUE.is("instance(1)", x.instance(1), 24575);
        DUE.is("count(1)", x.count(1), 24576);
        DUE.is("count(4)", x.count(4), 3 * 8190 + 2);
        DUE.is("instance(0)", x.instance(0), TypeLoom.FULL);
        DUE.is("variable(false, 0)", x.variable(false, 0), TypeLoom.FULL);
        DUE.is("variable(false, 4)", x.variable(false, 4), TypeLoom.NONE);
        DUE.is("rigid(false)", x.rigid(false), TypeLoom.FULL);
        DUE.is("function(0, 1)", x.function(0, 1), TypeLoom.FULL);
        DUE.is("function(0, 24576)", x.function(0, 24576), TypeLoom.NONE);
        DUE.is("built(0)", x.built(0), TypeLoom.FULL);
        DUE.is("built(1)", x.built(1), TypeLoom.NONE);
        DUE.is("record(false)", x.record(false), TypeLoom.FULL);
        DUE.is("record(true)", x.record(true), TypeLoom.FULL);
        DUE.is("push(3, 24575)", x.push(3, 24575), 1);
        DUE.is("record(true)", x.record(true), TypeLoom.FULL);
        DUE.is("count(2)", x.count(2), 1);
        DUE.is("count(7)", x.count(7), 0);
        DUE.is("scheme(0)", x.scheme(0), 13);
        DUE.is("instance(13), not quantified", x.instance(13), 0);
        DUE.is("unify(8190, 16381)", x.unify(8190, 16381), true);
        DUE.is("unify(8190, 24572)", x.unify(8190, 24572), true);
        DUE.is("same(16381, 0, 24572, 0)", x.same(16381, 0L, 24572, 0L), true);
        DUE.is("unify(0, 24572)", x.unify(0, 24572), false);
        DUE.is("same(8189, 0, 24572, 2)", x.same(8189, 0L, 24572, 2L), true);
    }

    private static void parts() {
        TypeLoom x = new TypeLoom();
        x.constructor(0, 1);
        x.constructor(1, 1);
        x.level(1);
        int v = x.variable(false, 0);
        for (int i = 0; i < 128; i++) {
            x.push(i, v);
        }
        int wide = x.record(false);
        x.level(0);
        x.scheme(wide);
        DUE.is("schemes", doubles(x, 0), 7);
        DUE.is("count(6)", x.count(6), 16496);
        DUE.is("count(5)", x.count(5), 3 * 127 - 7);
        DUE.is("clear(2, 7)", x.clear(2, 7), true);
        x.level(1);
        int[] made = new int[7];
        for (int s = 0; s < 7; s++) {
            made[s] = x.instance(s);
        }
        int pair = x.function(0, 0);
        x.level(0);
        for (int s : new int[] {6, 5, 4, 3, 2, 0}) {
            DUE.is("scheme of " + s, x.scheme(made[s]), x.count(3) - 1);
        }
        for (int i = 0; i < 17; i++) {
            x.scheme(pair);
        }
        DUE.is("count(6)", x.count(6), 32768);
        DUE.is("scheme of a function", x.scheme(pair), TypeLoom.FULL);
        DUE.is("scheme of a variable", x.scheme(0), 30);
        DUE.is("clear(2, 7)", x.clear(2, 7), true);
        for (int i = 0; i < 7; i++) {
            x.instance(6);
        }
        DUE.is("count(4)", x.count(4), 58226);
        int types = x.count(1);
        DUE.is("instance(6)", x.instance(6), TypeLoom.FULL);
        DUE.is("count(4)", x.count(4), 58226);
        DUE.is("count(1)", x.count(1), types);
        x.instance(5);
        x.instance(4);
        x.instance(3);
        for (int i = 0; i < 17; i++) {
            x.function(0, 0);
        }
        DUE.is("count(4)", x.count(4), 65534);
        x.push(0, 0);
        x.push(1, 0);
        x.push(2, 0);
        DUE.is("record of three", x.record(false), TypeLoom.FULL);
        DUE.is("count(2)", x.count(2), 3);
        DUE.is("function(0, 0)", x.function(0, 0), x.count(1) - 1);
        DUE.is("count(4)", x.count(4), 65536);
        DUE.is("function(0, 0)", x.function(0, 0), TypeLoom.FULL);
        DUE.is("variable(false, 0)", x.variable(false, 0), x.count(1) - 1);
    }

    /** Many rows come to stand for many fields, until it turns out that it can't be: nothing is left of that. */
    private static void manyFailures() {
        TypeLoom x = new TypeLoom();
        x.constructor(8, 1);
        int a = x.rigid(false);
        int b = x.rigid(false);
        for (int i = 0; i < 128; i++) {
            x.push(i, a);
        }
        int wide = x.record(false);
        int[] all = new int[8];
        for (int i = 0; i < 8; i++) {
            int[] rows = new int[8];
            for (int k = 0; k < 8; k++) {
                rows[k] = x.record(true);
            }
            all[i] = tuple(x, rows);
        }
        int open = tuple(x, all);
        int closed = tuple(x, wide, wide, wide, wide, wide, wide, wide, wide);
        closed = tuple(x, closed, closed, closed, closed, closed, closed, closed, closed);
        int one = x.function(open, a);
        int two = x.function(closed, b);
        for (int i = 0; i < 40; i++) {
            DUE.is("unify that fails late", x.unify(one, two), false);
        }
        DUE.is("look(open, 0x0808, 2)", x.look(open, 0x0808L, 2), 0);
        DUE.is("unify(open, closed)", x.unify(open, closed), true);
        DUE.is("look(open, 0x0808, 2)", x.look(open, 0x0808L, 2), 128);
        DUE.is("label(open, 0x0101, 127)", x.label(open, 0x0101L, 127), 127);
        DUE.is("same(open, 0x800808, a, 0)", x.same(open, 0x800808L, a, 0L), true);
        DUE.is("same(open, 0, closed, 0)", x.same(open, 0L, closed, 0L), true);
    }

    /** Rows that come to be as records are unified are gone as well when it fails, though types are nearly full. */
    private static void manyFailuresWhenFull() {
        TypeLoom x = new TypeLoom();
        x.constructor(8, 1);
        x.level(1);
        x.variable(false, 0);
        x.level(0);
        x.scheme(0);
        doubles(x, 0);
        DUE.is("clear(1, 13)", x.clear(1, 13), true);
        int a = x.rigid(false);
        int b = x.rigid(false);
        int[] lefts = new int[8];
        int[] rights = new int[8];
        for (int i = 0; i < 8; i++) {
            x.push(i, a);
            lefts[i] = x.record(true);
            x.push(i + 1, b);
            rights[i] = x.record(true);
        }
        int left = tuple(x, lefts);
        int right = tuple(x, rights);
        int one = x.function(left, a);
        int two = x.function(right, b);
        x.instance(12);
        for (int s = 12; s >= 0; s--) {
            x.instance(s);
        }
        DUE.is("nearly full", x.count(1) > 24576 - 8, true);
        for (int i = 0; i < 200; i++) {
            DUE.is("unify that fails late", x.unify(one, two), false);
        }
        DUE.is("unify(left, right)", x.unify(left, right), true);
        DUE.is("same(left, 0, right, 0)", x.same(left, 0L, right, 0L), true);
        for (int i = 0; i < 8; i++) {
            DUE.is("look of a left one", x.look(lefts[i], 0L, 2), 2);
            DUE.is("look of a right one", x.look(rights[i], 0L, 6), 1);
            DUE.is("label of a right one", x.label(rights[i], 0L, 0), i);
            DUE.is("same of all that have a row", x.same(lefts[i], 0L, lefts[0], 0L), i == 0);
        }
        DUE.is("unify of rows", x.unify(rights[7], lefts[5]), true);
        DUE.is("look of a left one", x.look(lefts[7], 0L, 2), 4);
        DUE.is("look of another", x.look(lefts[6], 0L, 2), 2);
    }

    private static int tuple(TypeLoom x, int... parts) {
        for (int part : parts) {
            x.push(-1, part);
        }
        return x.built(0);
    }

    /** What is gone by clear() leaves its room. */
    private static void manyTimes() {
        TypeLoom x = new TypeLoom();
        x.level(1);
        int v = x.variable(false, 0);
        for (int i = 0; i < 128; i++) {
            x.push(i, v);
        }
        int wide = x.record(false);
        x.level(0);
        x.scheme(wide);
        doubles(x, 0);
        for (int turn = 0; turn < 12; turn++) {
            DUE.is("clear(0, 7)", x.clear(0, 7), true);
            for (int i = 0; i < 6; i++) {
                x.instance(6);
            }
            int last = x.instance(6);
            DUE.is("count(4)", x.count(4), 58226);
            DUE.is("look(last, 0x80020202020202, 0)", x.look(last, 0x80020202020202L, 0), 0);
            DUE.is("same(last, 1, last, 2)", x.same(last, 1L, last, 2L), false);
            DUE.is("unify(0, last - 3)", x.unify(0, last - 3), true);
        }
    }

    /** A chain of functions that is twice as long each time: its end is unified with another's beginning. */
    private static void deepTypes() {
        TypeLoom x = new TypeLoom();
        x.constructor(0, 1);
        x.level(1);
        int hole = x.variable(false, 0);
        int chain = x.function(hole, hole);
        x.level(0);
        int s = x.scheme(chain);
        for (int i = 0; i < 11; i++) {
            x.level(1);
            int before = x.count(1);
            int one = x.instance(s);
            int middle = x.count(1);
            int two = x.instance(s);
            DUE.is("unify", x.unify(before, two), true);
            DUE.is("look", x.look(middle, 0L, 0), 0);
            x.level(0);
            s = x.scheme(one);
        }
        DUE.is("count(5)", x.count(5), 4095 + 12);
        DUE.is("clear", x.clear(1, s + 1), true);
        x.level(1);
        int[] ends = new int[6];
        int[] tops = new int[6];
        for (int i = 0; i < 6; i++) {
            ends[i] = x.count(1);
            tops[i] = x.instance(s);
            if (i % 3 > 0) {
                DUE.is("unify with an end", x.unify(ends[i - 1], tops[i]), true);
            }
        }
        int one = tops[0];
        int two = tops[3];
        DUE.is("look(one, 0, 3)", x.look(one, 0L, 3), 0);
        DUE.is("same of two", x.same(one, 0L, two, 0L), false);
        DUE.is("unify(end, top)", x.unify(ends[2], one), false);
        DUE.is("unify of two", x.unify(one, two), true);
        DUE.is("same of two", x.same(one, 0L, two, 0L), true);
        DUE.is("same of ends", x.same(ends[2], 0L, ends[5], 0L), true);
        x.level(0);
        DUE.is("scheme", x.scheme(one), s + 1);
        DUE.is("count(5)", x.count(5), 4095 + 12 + 3 * 2048 + 1);
        int low = x.variable(false, 0);
        DUE.is("unify(low, one)", x.unify(low, one), true);
        DUE.is("look(end, 0, 4)", x.look(ends[2], 0L, 4), 0);
        DUE.is("alike", x.alike(s, s), true);
    }

    private static void sharing() {
        TypeLoom x = new TypeLoom();
        x.constructor(2, 1);
        x.level(1);
        int v = x.variable(false, 0);
        int w = x.variable(false, 0);
        int one = v;
        int two = w;
        for (int i = 0; i < 75; i++) {
            x.push(-1, one);
            x.push(-1, one);
            one = x.built(0);
            x.push(-1, two);
            x.push(-1, two);
            two = x.built(0);
        }
        DUE.is("same", x.same(one, 0L, two, 0L), false);
        DUE.is("look(one, 0, 3)", x.look(one, 0L, 3), 0);
        DUE.is("unify(v, two)", x.unify(v, two), true);
        DUE.is("unify(w, one)", x.unify(w, one), false);
        x.level(0);
        DUE.is("scheme(one)", x.scheme(one), 0);
        DUE.is("count(5)", x.count(5), 151);
        int s = x.instance(0);
        int t = x.instance(0);
        DUE.is("alike(0, 0)", x.alike(0, 0), true);
        DUE.is("unify(s, t)", x.unify(s, t), true);
        DUE.is("same(s, 0, t, 0)", x.same(s, 0L, t, 0L), true);
        DUE.is("unify(wish, t)", x.unify(x.variable(true, 0), t), true);
        DUE.is("look(s, 0, 3)", x.look(s, 0L, 3), 1);
    }

    /** One row after another, each for a field more, up to 128; and a twin with the same row at the start. */
    private static void wideRows() {
        TypeLoom x = new TypeLoom();
        x.level(1);
        int v = x.variable(false, 0);
        x.level(0);
        x.push(500, v);
        int open = x.record(true);
        int s = x.scheme(open);
        int twin = x.instance(s);
        int a = x.rigid(false);
        for (int i = 0; i < 127; i++) {
            x.push(i * 37 % 127, a);
            DUE.is("unify", x.unify(open, x.record(true)), true);
        }
        DUE.is("count(7)", x.count(7), 128);
        DUE.is("look(twin, 0, 2)", x.look(twin, 0L, 2), 128);
        DUE.is("label(twin, 0, 126)", x.label(twin, 0L, 126), 126);
        DUE.is("label(twin, 0, 127)", x.label(twin, 0L, 127), 500);
        x.push(127, a);
        DUE.is("unify beyond", x.unify(open, x.record(true)), false);
        DUE.is("same(open, 0, twin, 0)", x.same(open, 0L, twin, 0L), false);
        DUE.is("unify(open, twin)", x.unify(open, twin), true);
        DUE.is("same(open, 0, twin, 0)", x.same(open, 0L, twin, 0L), true);
        DUE.is("look(open, 0, 6)", x.look(open, 0L, 6), 1);
    }
}
