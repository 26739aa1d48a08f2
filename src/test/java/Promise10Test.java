/** Promise 10: unify. */
public final class Promise10Test {
    private static final Due DUE = new Due("Promise10Test");

    public static void main(String[] args) {
        wrongTypes();
        structure();
        itself();
        levels();
        rigidOnes();
        wishes();
        sets();
        openRecords();
        closedRecords();
        rowLevelsAndWishes();
        sharedRows();
        manyFields();
        nothingChanges();
        DUE.end();
    }

    private static void unify(TypeLoom x, int t, int u, boolean want) {
        DUE.is("unify(" + t + ", " + u + ")", x.unify(t, u), want);
    }

    private static void look(TypeLoom x, int t, int what, int want) {
        DUE.is("look(" + t + ", 0, " + what + ")", x.look(t, 0L, what), want);
    }

    private static void same(TypeLoom x, int t, int u, boolean want) {
        DUE.is("same(" + t + ", 0, " + u + ", 0)", x.same(t, 0L, u, 0L), want);
    }

    private static int build(TypeLoom x, int constructor, int... parts) {
        for (int part : parts) {
            x.push(-1, part);
        }
        return x.built(constructor);
    }

    /** Labels and types by turns. */
    private static int fields(TypeLoom x, boolean open, int... fields) {
        for (int i = 0; i + 1 < fields.length; i += 2) {
            x.push(fields[i], fields[i + 1]);
        }
        return x.record(open);
    }

    private static void wrongTypes() {
        TypeLoom x = new TypeLoom();
        unify(x, 0, 0, false);
        int v = x.variable(false, 0);
        unify(x, v, v, true);
        unify(x, v, 1, false);
        unify(x, 1, v, false);
        unify(x, -1, v, false);
        unify(x, v, Integer.MAX_VALUE, false);
        unify(x, Integer.MIN_VALUE, v, false);
        look(x, v, 0, 0);
    }

    private static void structure() {
        TypeLoom x = new TypeLoom();
        int zero = x.constructor(0, 1);
        int other = x.constructor(0, 1);
        int pair = x.constructor(2, 1);
        int a = build(x, zero);
        int b = build(x, zero);
        int c = build(x, other);
        unify(x, a, b, true);
        unify(x, a, c, false);
        int v = x.variable(false, 0);
        int w = x.variable(false, 0);
        int one = build(x, pair, v, a);
        int two = build(x, pair, c, w);
        unify(x, one, two, true);
        same(x, v, c, true);
        same(x, w, a, true);
        same(x, one, two, true);
        unify(x, v, a, false);
        int f = x.function(v, w);
        int g = x.function(c, c);
        unify(x, f, g, false);
        unify(x, f, one, false);
        unify(x, f, x.function(c, a), true);
        unify(x, fields(x, false), f, false);
        unify(x, x.rigid(true), f, false);
        unify(x, x.rigid(true), a, false);
        int p = x.variable(false, 0);
        int q = x.variable(false, 0);
        int r = x.variable(false, 0);
        unify(x, p, q, true);
        unify(x, q, r, true);
        same(x, p, r, true);
        unify(x, p, f, true);
        look(x, r, 0, 3);
    }

    private static void itself() {
        TypeLoom x = new TypeLoom();
        int list = x.constructor(1, 1);
        int v = x.variable(false, 0);
        int w = x.variable(false, 0);
        int lv = build(x, list, v);
        int lw = build(x, list, w);
        unify(x, v, lv, false);
        unify(x, v, build(x, list, lv), false);
        unify(x, v, lw, true);
        unify(x, w, lv, false);
        unify(x, w, v, false);
        look(x, w, 0, 0);
        int a = x.variable(false, 0);
        int b = x.variable(false, 0);
        // a = list b and b = list a, met in one call.
        unify(x, x.function(a, b), x.function(build(x, list, b), build(x, list, a)), false);
        look(x, a, 0, 0);
        look(x, b, 0, 0);
        int c = x.variable(false, 0);
        int open = fields(x, true, 1, c);
        unify(x, c, open, false);
        // A row's fields may not have the record in them.
        unify(x, open, fields(x, true, 2, open), false);
        unify(x, open, fields(x, true, 2, x.function(open, open)), false);
        look(x, open, 2, 1);
        unify(x, open, fields(x, true, 2, c), true);
        look(x, open, 2, 2);
    }

    private static void levels() {
        TypeLoom x = new TypeLoom();
        int list = x.constructor(1, 1);
        x.level(3);
        int high = x.variable(false, 0);
        int inner = x.variable(false, 0);
        x.level(1);
        int low = x.variable(false, 0);
        x.level(5);
        int type = build(x, list, x.function(inner, inner));
        unify(x, high, low, true);
        look(x, high, 4, 1);
        look(x, low, 4, 1);
        look(x, inner, 4, 3);
        unify(x, low, type, true);
        look(x, inner, 4, 1);
        // What a variable stands for keeps its level: what comes in later gets it too.
        int late = x.variable(false, 0);
        look(x, late, 4, 5);
        unify(x, inner, build(x, list, late), true);
        look(x, late, 4, 1);
        x.level(0);
        int least = x.variable(false, 0);
        unify(x, least, late, true);
        look(x, late, 4, 0);
        // Levels of others stay: nothing asks for less.
        x.level(9);
        int free = x.variable(false, 0);
        int bound = build(x, list, free);
        unify(x, bound, build(x, list, x.variable(false, 0)), true);
        look(x, free, 4, 9);
    }

    private static void rigidOnes() {
        TypeLoom x = new TypeLoom();
        int list = x.constructor(1, 1);
        x.level(2);
        int r = x.rigid(false);
        int s = x.rigid(false);
        int at = x.variable(false, 0);
        x.level(1);
        int below = x.variable(false, 0);
        x.level(3);
        int above = x.variable(false, 0);
        unify(x, r, s, false);
        unify(x, below, r, false);
        unify(x, below, build(x, list, r), false);
        unify(x, above, build(x, list, r), true);
        unify(x, at, r, true);
        look(x, at, 0, 1);
        look(x, at, 4, 2);
        unify(x, at, s, false);
        // A variable in a type that another one stands for has the lesser level by then.
        int v = x.variable(false, 0);
        unify(x, below, build(x, list, v), true);
        unify(x, v, r, false);
        // Met in one call, in either order.
        int p = x.variable(false, 0);
        int q = x.variable(false, 0);
        x.level(0);
        int zero = x.variable(false, 0);
        unify(x, x.function(p, q), x.function(build(x, list, r), x.function(zero, zero)), true);
        int m = x.variable(false, 0);
        x.level(3);
        int n = x.variable(false, 0);
        unify(x, x.function(n, m), x.function(r, build(x, list, n)), false);
        unify(x, x.function(m, n), x.function(build(x, list, n), r), false);
        look(x, n, 0, 0);
        look(x, m, 0, 0);
        look(x, n, 4, 3);
    }

    private static void wishes() {
        TypeLoom x = new TypeLoom();
        int never = x.constructor(1, 0);
        int with = x.constructor(1, 1);
        int always = x.constructor(1, 2);
        int wish = x.variable(true, 0);
        int plain = x.variable(false, 0);
        unify(x, wish, build(x, never, plain), false);
        unify(x, wish, x.function(plain, plain), false);
        unify(x, wish, build(x, with, x.function(plain, plain)), false);
        look(x, plain, 3, 0);
        int inAlways = x.variable(false, 0);
        int inWith = x.variable(false, 0);
        int row = fields(x, true, 1, inWith, 2, build(x, always, inAlways));
        look(x, row, 3, 0);
        unify(x, wish, build(x, with, row), true);
        look(x, inWith, 3, 1);
        look(x, inAlways, 3, 0);
        look(x, row, 3, 1);
        unify(x, inAlways, x.function(plain, plain), true);
        unify(x, inWith, x.function(plain, plain), false);
        unify(x, inWith, x.rigid(false), false);
        unify(x, inWith, x.rigid(true), true);
        // The row has the wish as well.
        unify(x, row, fields(x, true, 3, plain), true);
        look(x, plain, 3, 1);
        unify(x, row, fields(x, true, 4, x.function(plain, plain)), false);
        unify(x, row, fields(x, true, 4, build(x, always, x.function(plain, plain))), true);
        int two = x.variable(false, 0);
        int wishing = x.variable(true, 0);
        unify(x, two, wishing, true);
        look(x, two, 3, 1);
        // The function is met first, the wish later.
        int v = x.variable(false, 0);
        int w = x.variable(true, 0);
        unify(x, x.function(v, v), x.function(x.function(v, w), w), false);
        int f = x.variable(false, 0);
        unify(x, x.function(f, f), x.function(x.function(inWith, inWith), w), false);
        look(x, f, 0, 0);
    }

    private static void sets() {
        TypeLoom x = new TypeLoom();
        int never = x.constructor(0, 0);
        int with = x.constructor(0, 1);
        int always = x.constructor(0, 2);
        int pair = x.constructor(2, 1);
        int far = never;
        for (int c = 4; c < 40; c++) {
            far = x.constructor(0, 1);
        }
        int v = x.variable(false, 7);
        int w = x.variable(false, 3);
        unify(x, v, build(x, far), false);
        unify(x, v, build(x, 32), false);
        unify(x, v, build(x, pair, v, w), false);
        unify(x, v, x.function(w, w), false);
        unify(x, v, x.rigid(true), false);
        unify(x, v, fields(x, false), false);
        unify(x, v, x.variable(false, 0), true);
        look(x, v, 5, 7);
        unify(x, v, w, true);
        look(x, v, 5, 3);
        unify(x, v, x.variable(false, 4), false);
        look(x, w, 5, 3);
        int wish = x.variable(true, 0);
        unify(x, wish, w, true);
        look(x, v, 5, 2);
        look(x, v, 3, 1);
        unify(x, v, build(x, never), false);
        unify(x, v, build(x, with), true);
        // A set and a wish that leave nothing.
        int only = x.variable(false, 1);
        unify(x, only, x.variable(true, 0), false);
        unify(x, only, x.variable(true, 6), false);
        look(x, only, 5, 1);
        look(x, only, 3, 0);
        // The wish comes from outside.
        int inside = x.variable(false, 5);
        unify(x, x.variable(true, 0), build(x, pair, inside, inside), true);
        look(x, inside, 5, 4);
        int none = x.variable(false, 1);
        unify(x, x.variable(true, 0), build(x, pair, inside, none), false);
        unify(x, inside, build(x, always), true);
        int plain = x.variable(false, 0);
        unify(x, plain, x.variable(false, 6), true);
        look(x, plain, 5, 6);
        unify(x, plain, build(x, never), false);
        unify(x, plain, build(x, always), true);
    }

    private static void openRecords() {
        TypeLoom x = new TypeLoom();
        int a = x.rigid(false);
        int b = x.rigid(false);
        int v = x.variable(false, 0);
        int one = fields(x, true, 5, a, 3, v);
        int two = fields(x, true, 4, b, 3, a);
        unify(x, one, two, true);
        same(x, v, a, true);
        same(x, one, two, true);
        for (int i = 0; i < 3; i++) {
            DUE.is("label(one, 0, " + i + ")", x.label(one, 0L, i), 3 + i);
            DUE.is("label(two, 0, " + i + ")", x.label(two, 0L, i), 3 + i);
        }
        DUE.is("count(7)", x.count(7), 2);
        look(x, one, 6, 1);
        // They have one row now: what one gets, the other has.
        int w = x.variable(false, 0);
        unify(x, two, fields(x, true, 1, w, 9, w), true);
        DUE.is("label(one, 0, 0)", x.label(one, 0L, 0), 1);
        DUE.is("label(one, 0, 4)", x.label(one, 0L, 4), 9);
        DUE.is("label(one, 0, 5)", x.label(one, 0L, 5), TypeLoom.NONE);
        DUE.is("same(one, 5, two, 1)", x.same(one, 5L, two, 1L), true);
        unify(x, one, fields(x, true, 9, b), true);
        same(x, w, b, true);
        unify(x, one, fields(x, true, 9, a), false);
        int empty = x.record(true);
        int like = x.record(true);
        same(x, empty, like, false);
        unify(x, empty, like, true);
        same(x, empty, like, true);
        unify(x, like, one, true);
        look(x, empty, 2, 5);
        unify(x, empty, x.function(a, a), false);
    }

    private static void closedRecords() {
        TypeLoom x = new TypeLoom();
        int a = x.rigid(false);
        int b = x.rigid(false);
        int ab = fields(x, false, 1, a, 2, b);
        unify(x, ab, fields(x, false, 2, b, 1, a), true);
        unify(x, ab, fields(x, false, 1, a), false);
        unify(x, ab, fields(x, false, 1, a, 3, b), false);
        unify(x, ab, fields(x, false, 1, b, 2, b), false);
        int open = fields(x, true, 1, a);
        int twin = fields(x, true, 2, b);
        unify(x, open, twin, true);
        unify(x, open, ab, true);
        look(x, twin, 6, 0);
        look(x, twin, 4, TypeLoom.NONE);
        same(x, twin, ab, true);
        unify(x, twin, fields(x, true, 3, a), false);
        int more = fields(x, true, 1, a, 2, b, 3, a);
        unify(x, ab, more, false);
        unify(x, more, ab, false);
        look(x, more, 2, 3);
        look(x, more, 6, 1);
        unify(x, x.record(true), x.record(false), true);
        unify(x, fields(x, true, 1, a), x.record(false), false);
    }

    private static void rowLevelsAndWishes() {
        TypeLoom x = new TypeLoom();
        x.level(4);
        int v = x.variable(false, 0);
        int w = x.variable(false, 0);
        int r = x.rigid(true);
        int high = fields(x, true, 1, v);
        x.level(2);
        int low = fields(x, true, 2, w);
        unify(x, low, fields(x, true, 3, r), false);
        unify(x, high, low, true);
        // The low row stands for v's field, the high one for w's.
        look(x, v, 4, 2);
        look(x, w, 4, 4);
        look(x, high, 4, 2);
        look(x, low, 4, 2);
        unify(x, high, fields(x, true, 3, r), false);
        unify(x, high, fields(x, false, 1, r, 2, w), false);
        x.level(4);
        int other = fields(x, true, 1, r, 5, w);
        unify(x, other, fields(x, true, 6, r), true);
        look(x, other, 4, 4);
        look(x, w, 4, 4);
        x.level(0);
        int zero = x.variable(false, 0);
        x.level(4);
        int inner = fields(x, true, 1, w);
        unify(x, zero, inner, true);
        look(x, inner, 4, 0);
        look(x, w, 4, 0);
        int wish = x.variable(true, 0);
        int one = fields(x, true, 1, x.variable(false, 0));
        int two = fields(x, true, 2, x.variable(false, 0));
        unify(x, wish, one, true);
        unify(x, one, two, true);
        look(x, two, 3, 1);
        int three = fields(x, true, 3, x.rigid(false));
        unify(x, two, three, false);
        look(x, three, 3, 0);
        // A row without fields to stand for gets the lesser level, and the wish.
        x.level(1);
        int same = fields(x, true, 1, x.variable(false, 0), 2, x.variable(false, 0));
        unify(x, same, two, true);
        look(x, same, 4, 1);
        look(x, one, 4, 1);
        look(x, same, 3, 1);
    }

    private static void sharedRows() {
        TypeLoom x = new TypeLoom();
        int list = x.constructor(1, 1);
        int open = -1;
        x.level(1);
        int v = x.variable(false, 0);
        x.level(0);
        x.push(1, v);
        open = x.record(true);
        int s = x.scheme(open);
        DUE.is("quantified(s, 1)", x.quantified(s, 1), 0);
        int twin = x.instance(s);
        same(x, open, twin, false);
        look(x, twin, 4, 0);
        int zero = x.rigid(false);
        // The twin has the same row, but another field.
        unify(x, twin, fields(x, true, 2, zero), true);
        look(x, open, 2, 2);
        same(x, open, twin, false);
        DUE.is("same(open, 2, twin, 2)", x.same(open, 2L, twin, 2L), true);
        int late = x.instance(s);
        look(x, late, 2, 2);
        unify(x, late, build(x, list, open), false);
        // The row would have itself in it, by way of the twin.
        unify(x, open, fields(x, true, 3, build(x, list, twin)), false);
        unify(x, x.record(true), fields(x, true, 3, build(x, list, twin)), true);
        unify(x, open, twin, true);
        same(x, open, twin, true);
        same(x, open, late, false);
        // A field may have a record with the same row in it.
        int field = x.variable(false, 0);
        unify(x, late, fields(x, true, 1, field), true);
        unify(x, field, build(x, list, open), true);
        unify(x, late, open, false);
    }

    private static void manyFields() {
        TypeLoom x = new TypeLoom();
        int a = x.rigid(false);
        for (int i = 0; i < 64; i++) {
            x.push(i, a);
        }
        int low = x.record(true);
        for (int i = 64; i < 128; i++) {
            x.push(i, a);
        }
        int high = x.record(true);
        for (int i = 63; i < 129; i++) {
            x.push(i, a);
        }
        int beyond = x.record(true);
        unify(x, low, beyond, false);
        look(x, low, 2, 64);
        unify(x, low, high, true);
        look(x, low, 2, 128);
        DUE.is("look(low, 128, 0)", x.look(low, 128L, 0), 1);
        DUE.is("look(low, 129, 0)", x.look(low, 129L, 0), TypeLoom.NONE);
        unify(x, low, fields(x, true, 200, a), false);
        unify(x, beyond, high, false);
        unify(x, high, fields(x, true, 100, a), true);
        unify(x, high, x.record(true), true);
        look(x, high, 6, 1);
    }

    /** A unification that fails late leaves levels, wishes, sets and rows as they were. */
    private static void nothingChanges() {
        TypeLoom x = new TypeLoom();
        int tuple = x.constructor(8, 1);
        x.constructor(0, 0);
        x.constructor(0, 1);
        int low = x.variable(true, 0);
        int closed = fields(x, false, 1, low, 2, low);
        x.level(6);
        int v = x.variable(false, 0);
        int set = x.variable(false, 6);
        int open = fields(x, true, 1, v);
        int twin = fields(x, true, 1, v);
        int third = fields(x, true, 7, v);
        int plain = x.variable(false, 0);
        int r = x.rigid(false);
        int s = x.rigid(true);
        int one = build(x, tuple, low, set, open, twin, open, plain, plain, r);
        int two = build(x, tuple, v, low, twin, third, x.record(true), v, set, s);
        unify(x, one, two, false);
        look(x, v, 4, 6);
        look(x, v, 3, 0);
        look(x, set, 5, 6);
        look(x, set, 4, 6);
        look(x, open, 2, 1);
        look(x, open, 4, 6);
        look(x, twin, 2, 1);
        look(x, third, 2, 1);
        look(x, low, 4, 0);
        same(x, open, twin, false);
        same(x, plain, v, false);
        same(x, low, v, false);
        unify(x, open, closed, true);
        unify(x, twin, third, true);
        look(x, twin, 4, 6);
        look(x, v, 4, 0);
        look(x, v, 3, 1);
        look(x, set, 3, 0);
        same(x, plain, v, false);
    }
}
