/**
 * FULL at the limits that 512 calls can reach: 24,576 types, 65,536 parts, 16,384 types of schemes and
 * 32,768 parts of these. Each is reached exactly, one before it still goes, and what is full leaves all
 * as it was. (That 128 are pushed is in EdgesOfMakingTest; what 512 calls can't reach, in BeyondTest.)
 */
public final class FullTest {
    private static final int NONE = TypeLoom.NONE;
    private static final int FULL = TypeLoom.FULL;
    private static final int TYPES = 24576;
    private static final int PARTS = 65536;
    private static final int SCHEME_TYPES = 16384;
    private static final int SCHEME_PARTS = 32768;
    /** The number of the next type when parts() has been made. */
    private static final int NEXT = 7 * 191 + 95 + 47 + 23 + 1;
    private static final Edge EDGE = new Edge("FullTest");

    public static void main(String[] args) {
        fullOfTypes();
        oneTypeLeft();
        whatStillGoesWithoutTypes();
        fullOfParts();
        oneOrTwoPartsLeft();
        whatStillGoesWithoutParts();
        instancesThatJustFit();
        fullOfSchemeTypes();
        fullOfSchemeParts();
        roomComesBack();
        EDGE.end();
    }

    private static Calls call() {
        return new Calls();
    }

    /**
     * Schemes that double: the first of a type that there is, each other one of a function from an instance
     * of the one before to another. The types are numbered on from one, with so many in the first scheme.
     */
    private static Calls doubled(Calls calls, int next, int size, int times) {
        int n = next;
        int each = size;
        for (int s = 0; s < times; s++) {
            calls.level(1).instance(s).instance(s).function(n + each - 1, n + 2 * each - 1).level(0).scheme(n + 2 * each);
            n += 2 * each + 1;
            each = 2 * each + 1;
        }
        return calls;
    }

    /** Scheme s, of 0 .. 12, has 2^(s + 1) - 1 types; constructors of arity 0, 1, 8. */
    private static Calls deepSchemes() {
        Calls calls = call().constructor(0, 1).constructor(1, 1).constructor(8, 1).level(1).variable(false, 0).level(0).scheme(0);
        return doubled(calls, 1, 1, 12);
    }

    /** The type that scheme s was made of, as long as nothing is cleared. */
    private static int deepType(int s) {
        return (4 << s) - s - 4;
    }

    /** So many types, some of which are free variables, have been made. */
    private static Calls types(int left) {
        Calls calls = deepSchemes().clear(3, 13).instance(12).instance(12).instance(12);
        for (int i = left; i < 3; i++) {
            calls.instance(0);
        }
        return calls;
    }

    /** Scheme s, of 0 .. 6, has 130 * 2^s - 2 parts; constructors of arity 0, 1, 8. */
    private static Calls wideSchemes() {
        Calls calls = call().constructor(0, 1).constructor(1, 1).constructor(8, 1).level(1).variable(false, 0)
            .fields(0, 127, 0).record(false).level(0).scheme(1);
        return doubled(calls, 2, 2, 6);
    }

    private static int wideType(int s) {
        return (6 << s) - s - 5;
    }

    /** Parts are left, up to 36; and scheme 7 is one of 3 types and 2 parts. */
    private static Calls parts(int left) {
        Calls calls = wideSchemes().clear(3, 7).level(1).variable(false, 0).variable(false, 0).function(0, 1).level(0)
            .scheme(2).clear(3, 8);
        for (int i = 0; i < 7; i++) {
            calls.instance(6);
        }
        return calls.instance(5).instance(4).instance(3).fields(0, 35 - left, 0).record(false);
    }

    private static void fullOfTypes() {
        Calls full = types(0);
        EDGE.answers("Terms: at most 24,576 types", full, call().count(1), TYPES);
        EDGE.refused("P4 FULL", full, call().built(0), FULL);
        EDGE.refused("P5 FULL", full, call().record(false), FULL);
        EDGE.refused("P5 FULL", full, call().record(true), FULL);
        EDGE.refused("P6 FULL", full, call().function(0, TYPES - 1), FULL);
        EDGE.refused("P7 FULL", full, call().variable(false, 0), FULL);
        EDGE.refused("P7 FULL", full, call().variable(true, 1), FULL);
        EDGE.refused("P8 FULL", full, call().rigid(false), FULL);
        EDGE.refused("P8 FULL", full, call().rigid(true), FULL);
        EDGE.refused("P16 FULL, and nothing is made", full, call().instance(0), FULL);
        EDGE.refused("P16 FULL, and nothing is made", full, call().instance(12), FULL);
        String pushed = "P4 what is pushed stays in both cases";
        EDGE.refused(pushed, types(0).arguments(TYPES - 1), call().built(1), FULL);
        EDGE.refused(pushed, types(0).arguments(0, 1, 2, 3, 4, 5, 6, 7), call().built(2), FULL);
        EDGE.refused(pushed, types(0).push(5, 0).push(3, 1), call().record(false), FULL);
        EDGE.refused(pushed, types(0).push(5, 0).push(3, 1), call().record(true), FULL);
        String refused = "P4 to P16 NONE, though it is full";
        EDGE.refused(refused, full, call().built(3), NONE);
        EDGE.refused(refused, full, call().built(1), NONE);
        EDGE.refused(refused, types(0).push(1, 0), call().built(1), NONE);
        EDGE.refused(refused, types(0).push(NONE, 0), call().record(true), NONE);
        EDGE.refused(refused, full, call().function(0, TYPES), NONE);
        EDGE.refused(refused, full, call().variable(false, 2), NONE);
        EDGE.refused(refused, full, call().variable(false, -1), NONE);
        EDGE.refused(refused, full, call().instance(13), NONE);
    }

    private static void oneTypeLeft() {
        Calls one = types(1);
        String last = "Terms: the last of 24,576 types";
        EDGE.answers(last, one, call().built(0), TYPES - 1);
        EDGE.answers(last, one, call().push(NONE, 0).built(1), TYPES - 1);
        EDGE.answers(last, one, call().record(false), TYPES - 1);
        EDGE.answers(last, one, call().record(true), TYPES - 1);
        EDGE.answers(last, one, call().function(0, 1), TYPES - 1);
        EDGE.answers(last, one, call().variable(true, 1), TYPES - 1);
        EDGE.answers(last, one, call().rigid(true), TYPES - 1);
        EDGE.answers(last, one, call().instance(0), TYPES - 1);
        EDGE.refused("P16 FULL, and nothing is made", one, call().instance(1), FULL);
        EDGE.refused("P16 FULL, and nothing is made", types(2), call().instance(1), FULL);
        EDGE.answers("P16 what just fits", types(3), call().instance(1), TYPES - 1);
        EDGE.answers("P16 each type counts", types(3), call().instance(1).count(1).count(4).variable(false, 0),
            new long[] {TYPES - 1, TYPES, 3 * 8190 + 2, FULL});
    }

    private static void whatStillGoesWithoutTypes() {
        Calls full = types(0);
        EDGE.answers("Terms: the limit is of types alone", full, call().constructor(0, 0).push(1, TYPES - 1).level(4).scheme(0)
            .quantified(13, 1).look(TYPES - 1, 0L, 0).unify(0, TYPES - 1).same(0, 0L, TYPES - 1, 0L).clear(3, 13),
            new long[] {3, 1, 0, 13, 0, 0, 1, 1, 1});
        EDGE.refused("P16 one alone that is not quantified is not made", types(0).scheme(4), call().instance(13), 4);
        // Scheme 13 is a function from what is quantified to what is not: two types are made, with two parts.
        for (int left = 0; left < 3; left++) {
            Calls before = deepSchemes().level(1).instance(0).level(0).variable(false, 0).function(16369, 16370)
                .scheme(16371).instance(11).instance(11);
            for (int i = left; i < 14; i++) {
                before.instance(0);
            }
            if (left < 2) {
                EDGE.refused("P16 FULL by what is made", before, call().instance(13), FULL);
            } else {
                EDGE.answers("P16 no type is made for what is not quantified", before, call().count(1).instance(13).count(1),
                    new long[] {TYPES - 2, TYPES - 1, TYPES});
            }
        }
    }

    private static void fullOfParts() {
        Calls full = parts(0);
        EDGE.answers("Terms: 65,536 parts in all", full, call().count(4), PARTS);
        EDGE.refused("P6 FULL for parts", full, call().function(0, 0), FULL);
        EDGE.refused("P16 FULL for parts, and nothing is made", full, call().instance(7), FULL);
        EDGE.refused("P16 FULL for parts, and nothing is made", full, call().instance(6), FULL);
        EDGE.refused("P4 FULL for parts", parts(0).arguments(0), call().built(1), FULL);
        EDGE.refused("P4 FULL for parts", parts(7).arguments(0, 1, 2, 3, 4, 5, 6, 7), call().built(2), FULL);
        for (boolean open : new boolean[] {false, true}) {
            EDGE.refused("P5 FULL for parts", parts(0).push(3, 0), call().record(open), FULL);
            EDGE.refused("P5 FULL for parts", parts(2).push(7, 1).push(3, 0).push(5, 2), call().record(open), FULL);
        }
        EDGE.refused("P4 NONE, though it is full", parts(0).push(3, 0), call().built(1), NONE);
        EDGE.refused("P5 NONE, though it is full", parts(0).push(NONE, 0), call().record(false), NONE);
        EDGE.refused("P6 NONE, though it is full", full, call().function(-1, 0), NONE);
    }

    private static void oneOrTwoPartsLeft() {
        EDGE.answers("P6 the last two parts", parts(2), call().count(4).function(0, 0).count(4).function(0, 0),
            new long[] {PARTS - 2, NEXT, PARTS, FULL});
        EDGE.refused("P6 FULL with one part left", parts(1), call().function(0, 0), FULL);
        EDGE.answers("P4 the last part", parts(1), call().push(NONE, 0).built(1).count(4), new long[] {1, NEXT, PARTS});
        EDGE.answers("P4 the last eight", parts(8).arguments(0, 0, 0, 0, 0, 0, 0, 0), call().built(2).count(4),
            new long[] {NEXT, PARTS});
        EDGE.answers("P5 the last part", parts(1), call().push(9, 0).record(true).count(4), new long[] {1, NEXT, PARTS});
        EDGE.answers("P5 the last two", parts(2), call().push(9, 0).push(8, 0).record(false).count(4),
            new long[] {1, 2, NEXT, PARTS});
        EDGE.refused("P16 FULL with one part left", parts(1), call().instance(7), FULL);
        EDGE.answers("P16 the last two parts", parts(2), call().instance(7).count(4).count(1),
            new long[] {NEXT + 2, PARTS, NEXT + 3});
    }

    private static void whatStillGoesWithoutParts() {
        EDGE.answers("Terms: what has no parts", parts(0), call().built(0).record(false).record(true).variable(true, 0)
            .rigid(true).count(4), new long[] {NEXT, NEXT + 1, NEXT + 2, NEXT + 3, NEXT + 4, PARTS});
        EDGE.answers("P10 fields that a row comes to stand for are no parts that were made", parts(0).record(true), call()
            .unify(NEXT, NEXT - 1).look(NEXT, 0L, 2).count(4), new long[] {1, 36, PARTS});
        EDGE.answers("P16 what has no parts", parts(0).built(0).scheme(NEXT), call().instance(8), NEXT + 1);
    }

    private static void instancesThatJustFit() {
        Calls before = wideSchemes().clear(3, 7);
        for (int i = 0; i < 7; i++) {
            before.instance(6);
        }
        EDGE.answers("P16 FULL for parts alone", before, call().count(1).count(4).instance(6).count(1).count(4).instance(5),
            new long[] {7 * 191, 7 * 8318, FULL, 7 * 191, 7 * 8318, 7 * 191 + 94});
        EDGE.refused("P16 FULL, and nothing is made", before, call().instance(6), FULL);
        Calls deep = deepSchemes().clear(3, 13).instance(12).instance(12);
        EDGE.answers("P16 FULL for types alone", deep, call().count(1).instance(12).count(1).instance(12).count(1).count(4),
            new long[] {2 * 8191, 3 * 8191 - 1, 3 * 8191, FULL, 3 * 8191, 3 * 8190});
    }

    private static void fullOfSchemeTypes() {
        Calls some = deepSchemes();
        EDGE.answers("Terms: types of all schemes together", some, call().count(3).count(5).count(6).look(deepType(12), 0L, 0),
            new long[] {13, SCHEME_TYPES - 15, 16356, 3});
        EDGE.refused("P14 FULL for types, and nothing is made", some, call().scheme(deepType(4)), FULL);
        EDGE.refused("P14 FULL for types, and nothing is made", some, call().scheme(deepType(12)), FULL);
        EDGE.answers("P14 the last 15 types", some, call().scheme(deepType(3)).count(5).count(6).quantified(13, 0),
            new long[] {13, SCHEME_TYPES, 16356 + 14, 8});
        Calls full = deepSchemes().scheme(deepType(3));
        EDGE.refused("P14 FULL for types, and nothing is made", full, call().scheme(0), FULL);
        EDGE.refused("P14 FULL for types, and nothing is made", full, call().scheme(deepType(1)), FULL);
        EDGE.refused("P14 NONE, though it is full", full, call().scheme(-1), NONE);
        EDGE.refused("P14 NONE, though it is full", deepSchemes().scheme(deepType(3)).level(1).record(true).level(0),
            call().scheme(deepType(12) + 1), NONE);
        EDGE.refused("P14 NONE, though it is full", deepSchemes().scheme(deepType(3)).level(1).variable(false, 1).level(0),
            call().scheme(deepType(12) + 1), NONE);
        // What was made last, at the limit itself, is as good as the others.
        EDGE.answers("P14 the scheme that has the last types", full, call().alike(3, 13).clear(3, 14).instance(13)
            .look(14, 0L, 2).look(14, 0x020202L, 0).look(14, 0x010202L, 0).same(14, 0x020202L, 14, 0x010202L).instance(3)
            .unify(14, 29).count(4), new long[] {1, 1, 14, 2, 0, 0, 0, 29, 1, 28});
        Calls one = deepSchemes().scheme(deepType(2)).scheme(deepType(2));
        EDGE.refused("P14 FULL with one type left", one, call().scheme(deepType(1)), FULL);
        EDGE.answers("P14 the last type", one, call().scheme(0).count(5).scheme(0), new long[] {15, SCHEME_TYPES, FULL});
    }

    private static void fullOfSchemeParts() {
        Calls some = wideSchemes();
        for (int s : new int[] {6, 5, 4, 3, 2, 0}) {
            some.scheme(wideType(s));
        }
        int next = wideType(6) + 1;
        EDGE.answers("Terms: parts of all schemes together", some, call().count(6).count(5).scheme(wideType(0)).count(6).count(5),
            new long[] {SCHEME_PARTS - 34, 743, FULL, SCHEME_PARTS - 34, 743});
        EDGE.refused("P14 FULL for parts, and nothing is made", some, call().scheme(wideType(0)), FULL);
        EDGE.refused("P14 FULL for parts, and nothing is made", some, call().scheme(wideType(6)), FULL);
        Calls one = call().then(some).fields(0, 32, 0).record(false).scheme(next).function(0, 0);
        EDGE.refused("P14 FULL with one part left", one, call().scheme(next + 1), FULL);
        Calls two = call().then(some).fields(0, 31, 0).record(false).scheme(next).function(0, 0);
        EDGE.answers("P14 the last two parts", two, call().scheme(next + 1).count(6).scheme(next + 1).scheme(0).count(6),
            new long[] {14, SCHEME_PARTS, FULL, 15, SCHEME_PARTS});
        Calls full = call().then(two).scheme(next + 1);
        EDGE.refused("P14 FULL for parts, and nothing is made", full, call().scheme(next + 1), FULL);
        EDGE.refused("P14 NONE, though it is full", full, call().scheme(next + 2), NONE);
        EDGE.answers("P14 what has no parts", full, call().scheme(0).count(6), new long[] {15, SCHEME_PARTS});
        EDGE.answers("P14 the scheme that has the last parts", full, call().clear(3, 15).instance(14).look(1, 0L, 2)
            .same(1, 2L, 0, 0L).instance(13).look(3, 0L, 2).label(3, 0L, 31).same(3, 32L, 2, 0L).count(4),
            new long[] {1, 1, 2, 1, 3, 32, 31, 1, 34});
    }

    private static void roomComesBack() {
        EDGE.answers("P18 all types are gone, and their parts", types(0).clear(3, 13), call().count(1).count(4).instance(12)
            .instance(12).instance(12).instance(12), new long[] {0, 0, 8190, 16381, 24572, FULL});
        EDGE.answers("P18 all types are gone, and their parts", parts(0).clear(3, 8), call().count(4).instance(6).count(4),
            new long[] {0, 190, 8318});
        EDGE.answers("P18 schemes that go leave their room", deepSchemes().scheme(deepType(3)).clear(3, 12), call().count(5)
            .count(6).instance(11).scheme(4094).count(5), new long[] {8178, 8166, 4094, 12, 8178 + 4095});
        EDGE.answers("P14 what was full goes after that", wideSchemes().scheme(wideType(6)).clear(3, 6), call().count(6)
            .instance(5).scheme(94).count(6), new long[] {16496 - 8318, 94, 6, 16496 - 8318 + 4158});
    }
}
