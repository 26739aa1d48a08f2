/** Promises 14 to 18: each sentence that names an edge, by the sentence. The full ones are in FullTest. */
public final class EdgesOfSchemesTest {
    private static final int NONE = TypeLoom.NONE;
    private static final int MIN = Integer.MIN_VALUE;
    private static final int MAX = Integer.MAX_VALUE;
    private static final int TYPES = 10;
    private static final int SCHEMES = 4;
    private static final Edge EDGE = new Edge("EdgesOfSchemesTest");

    public static void main(String[] args) {
        schemesOfNoSuchType();
        rowsAboveThePresentLevel();
        setsAboveThePresentLevel();
        whatIsQuantified();
        whatIsClosed();
        theSameAreOneType();
        quantifiedOfNone();
        wishesAndEquality();
        instancesOfNone();
        instancesOfOneAlone();
        instancesInOrder();
        instancesHaveThePresentLevel();
        instancesOfWhatIsNotQuantified();
        alikeOfNone();
        alikeOfWhatIsNotClosed();
        alikeButForNames();
        clearOfNotSoMany();
        clearOfWhatIsNotClosed();
        clearOfAConstructorThatWouldGo();
        allTypesAreGone();
        EDGE.end();
    }

    private static Calls call() {
        return new Calls();
    }

    /**
     * At level 1; above it 0 a variable, 1 one with a wish, 2 one with a set, 3 a rigid one with equality
     * and 4 an open record of 0; not above it 5 a variable, 6 a rigid one and 7 an open record of 3; 8 is
     * a list of 0, 9 a function from 8 to 3. Schemes: 0 of 9, 1 of 5, 2 of 1, 3 of 7.
     */
    private static Calls some() {
        return new Calls().constructor(0, 1).constructor(1, 1).constructor(0, 1)
            .level(2).variable(false, 0).variable(true, 0).variable(false, 5).rigid(true).push(4, 0).record(true)
            .level(1).variable(false, 0).rigid(false).push(4, 3).record(true)
            .push(NONE, 0).built(1).function(8, 3).scheme(9).scheme(5).scheme(1).scheme(7);
    }

    private static void schemesOfNoSuchType() {
        for (int type : new int[] {-1, TYPES, -2, MIN, MAX}) {
            EDGE.refused("P14 NONE when there is no such type", some(), call().scheme(type), NONE);
            EDGE.refused("P14 NONE when there is no such type", some().push(6, 1).push(2, 0), call().scheme(type), NONE);
        }
        EDGE.refused("P14 NONE when it is gone", some().clear(3, 0), call().scheme(0), NONE);
        EDGE.answers("P14 its number", some(), call().scheme(0).count(3).scheme(0).count(3),
            new long[] {SCHEMES, SCHEMES + 1, SCHEMES + 1, SCHEMES + 2});
    }

    private static void rowsAboveThePresentLevel() {
        String sentence = "P14 NONE when a row of a level above the present one is in it";
        EDGE.refused(sentence, some(), call().scheme(4), NONE);
        EDGE.refused(sentence, some().function(0, 4), call().scheme(TYPES), NONE);
        EDGE.refused(sentence, some().function(4, 0), call().scheme(TYPES), NONE);
        EDGE.refused(sentence, some().push(1, 4).record(false), call().scheme(TYPES), NONE);
        EDGE.refused(sentence, some().unify(0, 7).level(0), call().scheme(0), NONE);
        EDGE.refused(sentence, some().level(2).push(9, 0).record(true).unify(4, TYPES).level(1),
            call().scheme(4), NONE);
        EDGE.answers("P14 a row of the present level", some(), call().scheme(7), SCHEMES);
        EDGE.answers("P14 a row of the present level", some().level(2), call().scheme(4), SCHEMES);
        EDGE.answers("P14 a row below the present level", some().level(3), call().scheme(4), SCHEMES);
        EDGE.answers("P14 a row that stands for something is no row in it", some().push(4, 0).record(false)
            .unify(4, TYPES), call().scheme(4), SCHEMES);
        EDGE.answers("P14 a row whose level was made less", some().unify(5, 4), call().scheme(4), SCHEMES);
        EDGE.answers("P14 a row beside it", some().function(0, 4), call().scheme(0), SCHEMES);
    }

    private static void setsAboveThePresentLevel() {
        String sentence = "P14 NONE when a variable with a set of a level above the present one is in it";
        EDGE.refused(sentence, some(), call().scheme(2), NONE);
        EDGE.refused(sentence, some().function(0, 2), call().scheme(TYPES), NONE);
        EDGE.refused(sentence, some().unify(0, 2), call().scheme(8), NONE);
        EDGE.refused(sentence, some().variable(false, 1).level(0), call().scheme(TYPES), NONE);
        EDGE.answers("P14 of the present level", some().level(2), call().scheme(2).quantified(SCHEMES, 0)
            .quantified(SCHEMES, 1), new long[] {SCHEMES, 0, 0});
        EDGE.answers("P14 below the present level", some().level(3), call().scheme(2), SCHEMES);
        EDGE.answers("P14 whose level was made less", some().unify(2, 5), call().scheme(2), SCHEMES);
        EDGE.answers("P14 that stands for a type", some().built(0).unify(2, TYPES), call().scheme(2)
            .quantified(SCHEMES, 1), new long[] {SCHEMES, 1});
        EDGE.answers("P14 without a set", some(), call().scheme(0), SCHEMES);
    }

    private static void whatIsQuantified() {
        String sentence = "Terms: quantified are those of a level above the present one";
        // A variable and a rigid one of level 2 and of level 1.
        Calls both = some().function(0, 5).function(3, 6).function(TYPES, TYPES + 1);
        for (int level = 0; level <= 3; level++) {
            long above = level == 0 ? 4 : level == 1 ? 2 : 0;
            EDGE.answers(sentence, call().then(both).level(level), call().scheme(TYPES + 2).quantified(SCHEMES, 0)
                .quantified(SCHEMES, 1), new long[] {SCHEMES, above, level == 0 ? 1 : 0});
        }
        EDGE.answers("Terms: of level 100 above 99", some().level(100).rigid(false).level(99), call().scheme(TYPES)
            .quantified(SCHEMES, 0), new long[] {SCHEMES, 1});
        EDGE.answers("Terms: of level 100 above no level", some().level(100).rigid(false), call().scheme(TYPES)
            .quantified(SCHEMES, 0).quantified(SCHEMES, 1), new long[] {SCHEMES, 0, 0});
        EDGE.answers("Terms: of a level that was made less", some().unify(0, 5), call().scheme(9).quantified(SCHEMES, 0),
            new long[] {SCHEMES, 1});
    }

    private static void whatIsClosed() {
        String sentence = "Terms: closed when no others of these, and no rows, were in it when it was made";
        EDGE.answers(sentence, some(), call().quantified(0, 1).quantified(1, 1).quantified(2, 1).quantified(3, 1),
            new long[] {1, 0, 1, 0});
        EDGE.answers("Terms: nothing quantified, nothing else", some().built(0), call().scheme(TYPES)
            .quantified(SCHEMES, 0).quantified(SCHEMES, 1), new long[] {SCHEMES, 0, 1});
        EDGE.answers("Terms: a rigid one that is not quantified", some(), call().scheme(6).quantified(SCHEMES, 1),
            new long[] {SCHEMES, 0});
        EDGE.answers(sentence + ", whatever comes later", some().built(0).push(4, 3)
            .record(false), call().unify(5, TYPES).unify(7, TYPES + 1).unify(0, 9).unify(0, 6).unify(1, TYPES)
            .quantified(0, 0).quantified(0, 1).quantified(1, 1).quantified(2, 0).quantified(3, 1),
            new long[] {1, 1, 0, 1, 1, 2, 1, 0, 1, 0});
    }

    private static void theSameAreOneType() {
        String sentence = "Terms: those that are the same are one type of a scheme";
        Calls before = some().built(0).built(0).function(TYPES, TYPES + 1).push(NONE, 0).built(1)
            .function(8, TYPES + 3).function(8, TYPES + 2);
        EDGE.answers(sentence, before, call().count(5).count(6).scheme(TYPES + 2).count(5).count(6),
            new long[] {8, 4, SCHEMES, 10, 6});
        EDGE.answers(sentence, before, call().scheme(TYPES + 4).count(5).count(6), new long[] {SCHEMES, 11, 7});
        EDGE.answers(sentence, before, call().scheme(TYPES + 5).count(5).count(6), new long[] {SCHEMES, 13, 9});
        EDGE.answers("Terms: two schemes have types of their own", before, call().scheme(9).count(5).count(6).scheme(9)
            .count(5).count(6), new long[] {SCHEMES, 12, 7, SCHEMES + 1, 16, 10});
        EDGE.answers("Terms: a variable alone is one type without parts", before, call().scheme(5).count(5).count(6),
            new long[] {SCHEMES, 9, 4});
    }

    private static void quantifiedOfNone() {
        for (int s : new int[] {-1, SCHEMES, -2, MIN, MAX}) {
            for (int what = 0; what <= 2; what++) {
                EDGE.refused("P15 NONE when there is none", some(), call().quantified(s, what), NONE);
            }
        }
        for (int what : new int[] {-1, 3, -2, MIN, MAX}) {
            for (int s = 0; s < SCHEMES; s++) {
                EDGE.refused("P15 NONE for another what", some(), call().quantified(s, what), NONE);
            }
        }
        EDGE.refused("P15 NONE when it is gone", some().clear(3, 1), call().quantified(1, 0), NONE);
        EDGE.answers("P15 when it stays", some().clear(3, 1), call().quantified(0, 0).quantified(0, 1).quantified(0, 2),
            new long[] {2, 1, 1});
    }

    private static void wishesAndEquality() {
        String sentence = "P15 how many of the quantified ones have a wish, or equality";
        int[] due = {0, 1, -1, 1, -1, 0, 0, 0, 0, 1};
        for (int t = 0; t < TYPES; t++) {
            if (due[t] >= 0) {
                EDGE.answers(sentence, some(), call().scheme(t).quantified(SCHEMES, 2), new long[] {SCHEMES,
                    t == 7 ? 1 : due[t]});
            }
        }
        EDGE.answers(sentence + ": not of others", some().variable(true, 0).rigid(true)
            .function(TYPES, TYPES + 1), call().scheme(TYPES + 2).quantified(SCHEMES, 2), new long[] {SCHEMES, 0});
        EDGE.answers(sentence + ": each once", some().function(1, 1).function(TYPES, 3),
            call().scheme(TYPES + 1).quantified(SCHEMES, 0).quantified(SCHEMES, 2), new long[] {SCHEMES, 2, 2});
    }

    private static void instancesOfNone() {
        for (int s : new int[] {-1, SCHEMES, -2, MIN, MAX}) {
            EDGE.refused("P16 NONE when there is no such scheme", some(), call().instance(s), NONE);
            EDGE.refused("P16 NONE when there is no such scheme", some().push(6, 1).push(2, 0), call().instance(s), NONE);
        }
        EDGE.refused("P16 NONE when it is gone", some().clear(3, 1), call().instance(1), NONE);
        EDGE.answers("P16 when it stays", some().clear(3, 1), call().instance(0), 3);
    }

    private static void instancesOfOneAlone() {
        String sentence = "P16 when the scheme is one alone, the number is that which scheme() was told";
        EDGE.refused(sentence + ", and nothing is made", some(), call().instance(1), 5);
        EDGE.refused(sentence + ", and nothing is made", some().scheme(6), call().instance(SCHEMES), 6);
        EDGE.refused(sentence + ", though it stands for another", some().level(0).variable(false, 0)
            .unify(5, TYPES).scheme(5), call().instance(SCHEMES), 5);
        EDGE.refused(sentence + ", though it stands for a type by now", some().unify(5, 6), call().instance(1), 5);
        EDGE.answers("P16 one alone that is quantified is made", some(), call().instance(2).look(TYPES, 0L, 0)
            .look(TYPES, 0L, 3).same(TYPES, 0L, 1, 0L), new long[] {TYPES, 0, 1, 0});
        EDGE.answers("P16 one alone that is built is made", some().built(0).scheme(TYPES),
            call().instance(SCHEMES), TYPES + 1);
    }

    private static void instancesInOrder() {
        String sentence = "P16 parts before what they are parts of, in the order of parts";
        // 9 is (list 0 -> 3): a variable, the list, a variable with the wish, the function.
        EDGE.answers(sentence, some(), call().instance(0).look(TYPES, 0L, 0).look(TYPES + 1, 0L, 0).look(TYPES + 2, 0L, 0)
            .look(TYPES + 3, 0L, 0).look(TYPES, 0L, 3).look(TYPES + 2, 0L, 3).same(TYPES + 1, 1L, TYPES, 0L)
            .same(TYPES + 3, 1L, TYPES + 1, 0L).same(TYPES + 3, 2L, TYPES + 2, 0L).count(1).count(4),
            new long[] {TYPES + 3, 0, 2, 0, 3, 0, 1, 1, 1, 1, TYPES + 4, 8});
        Calls fields = some().push(9, 3).push(1, 9).push(5, 1).record(false).scheme(TYPES);
        EDGE.answers(sentence + ": fields by rising labels", fields, call().instance(SCHEMES).look(TYPES + 2, 0L, 0)
            .look(TYPES + 4, 0L, 0).look(TYPES + 5, 0L, 0).look(TYPES + 6, 0L, 0).same(TYPES + 6, 1L, TYPES + 4, 0L)
            .same(TYPES + 6, 2L, TYPES + 5, 0L).same(TYPES + 6, 3L, TYPES + 3, 0L).label(TYPES + 6, 0L, 0)
            .label(TYPES + 6, 0L, 2), new long[] {TYPES + 6, 2, 3, 0, 4, 1, 1, 1, 1, 9});
        EDGE.answers("P16 what is pushed stays", some().push(3, 0).push(1, 0), call().instance(0).count(2),
            new long[] {TYPES + 3, 2});
    }

    private static void instancesHaveThePresentLevel() {
        for (int level : new int[] {0, 1, 100}) {
            EDGE.answers("P16 new free variables of the present level", some().level(level), call().instance(0)
                .look(TYPES, 0L, 4).look(TYPES + 2, 0L, 4).look(TYPES + 2, 0L, 5).look(0, 0L, 4),
                new long[] {TYPES + 3, level, level, 0, 2});
        }
        EDGE.answers("P16 new ones each time", some(), call().instance(0).instance(0).same(TYPES, 0L, TYPES + 4, 0L)
            .unify(TYPES + 3, TYPES + 7).same(TYPES, 0L, TYPES + 4, 0L), new long[] {TYPES + 3, TYPES + 7, 0, 1, 1});
        EDGE.answers("P16 with a wish where equality was had", some(), call().instance(0).unify(TYPES + 2, 9)
            .unify(TYPES + 2, 3), new long[] {TYPES + 3, 0, 0});
        EDGE.answers("P16 a variable even for a rigid one", some().level(2), call().instance(0).unify(TYPES + 2, 3)
            .same(TYPES + 2, 0L, 3, 0L), new long[] {TYPES + 3, 1, 1});
    }

    private static void instancesOfWhatIsNotQuantified() {
        Calls before = some().function(5, 0).function(TYPES, 6).scheme(TYPES + 1);
        EDGE.answers("P16 they are themselves", before, call().instance(SCHEMES).same(TYPES + 4, 0x0101L, 5, 0L)
            .same(TYPES + 4, 2L, 6, 0L).same(TYPES + 4, 0x0201L, 0, 0L).look(TYPES + 2, 0L, 0).look(TYPES + 3, 0L, 0),
            new long[] {TYPES + 4, 1, 1, 0, 0, 3});
        EDGE.answers("P16 what they are now", call().then(before).unify(5, 6), call().instance(SCHEMES)
            .look(TYPES + 4, 0x0101L, 0), new long[] {TYPES + 4, 1});
        EDGE.answers("P16 a row is itself, and counts for nothing", some(), call().instance(3).count(7)
            .unify(TYPES + 1, 7).look(TYPES + 1, 0L, 4), new long[] {TYPES + 1, 2, 0, 1});
    }

    private static void alikeOfNone() {
        for (int s : new int[] {-1, SCHEMES, -2, MIN, MAX}) {
            EDGE.refused("P17 false when there are no such schemes", some(), call().alike(s, 0), 0);
            EDGE.refused("P17 false when there are no such schemes", some(), call().alike(0, s), 0);
            EDGE.refused("P17 false when there are no such schemes", some(), call().alike(s, s), 0);
        }
        EDGE.refused("P17 false when it is gone", some().clear(3, 0), call().alike(0, 0), 0);
    }

    private static void alikeOfWhatIsNotClosed() {
        for (int s : new int[] {1, 3}) {
            EDGE.refused("P17 false when one is not closed", some(), call().alike(s, s), 0);
            EDGE.refused("P17 false when one is not closed", some(), call().alike(s, 0), 0);
            EDGE.refused("P17 false when one is not closed", some(), call().alike(0, s), 0);
        }
        EDGE.answers("P17 false though they have the same in them", some().scheme(5).scheme(7), call().alike(1, SCHEMES)
            .alike(3, SCHEMES + 1), new long[] {0, 0});
        EDGE.answers("P17 a closed one and itself", some(), call().alike(0, 0).alike(2, 2).alike(0, 2).alike(2, 0),
            new long[] {1, 1, 0, 0});
    }

    private static void alikeButForNames() {
        // Two variables without a wish, two with it; a rigid one of each kind.
        Calls before = call().constructor(1, 1).constructor(1, 1).level(1).variable(false, 0).variable(false, 0)
            .variable(true, 0).variable(true, 0).rigid(false).rigid(true).level(0);
        int[][][] due = {
            {{0, 1}, {1, 0}, {1}}, {{0, 1}, {0, 0}, {0}}, {{0, 0}, {1, 1}, {1}}, {{0, 1}, {4, 0}, {1}},
            {{0, 2}, {2, 0}, {0}}, {{0, 2}, {1, 3}, {1}}, {{0, 2}, {4, 5}, {1}}, {{2, 3}, {3, 5}, {1}},
            {{2, 2}, {2, 3}, {0}}, {{0, 0}, {2, 2}, {0}}, {{4, 4}, {0, 0}, {1}}, {{5, 4}, {2, 0}, {1}},
            {{0, 1}, {2, 3}, {0}}, {{0, 1}, {0, 3}, {0}}};
        for (int[][] d : due) {
            EDGE.answers("P17 the same but for the names, with equality, in the same order", before,
                call().function(d[0][0], d[0][1]).function(d[1][0], d[1][1]).scheme(6).scheme(7).alike(0, 1).alike(1, 0),
                new long[] {6, 7, 0, 1, d[2][0], d[2][0]});
        }
        EDGE.answers("P17 other constructors", before, call().push(NONE, 0).built(0).push(NONE, 0).built(1).scheme(6)
            .scheme(7).alike(0, 1), new long[] {1, 6, 1, 7, 0, 1, 0});
        EDGE.answers("P17 other labels", before, call().push(1, 0).record(false).push(2, 0).record(false).push(1, 1)
            .record(false).scheme(6).scheme(7).scheme(8).alike(0, 1).alike(0, 2),
            new long[] {1, 6, 1, 7, 1, 8, 0, 1, 2, 0, 1});
        EDGE.answers("P17 other kinds", before, call().record(false).function(0, 0).push(1, 0).push(2, 0).record(false)
            .scheme(6).scheme(7).scheme(8).alike(0, 1).alike(1, 2), new long[] {6, 7, 1, 2, 8, 0, 1, 2, 0, 0});
        EDGE.answers("P17 after the types are gone", before, call().function(0, 1).function(4, 0).scheme(6).scheme(7)
            .clear(0, 2).alike(0, 1).variable(false, 0).alike(0, 1), new long[] {6, 7, 0, 1, 1, 1, 0, 1});
    }

    private static void clearOfNotSoMany() {
        for (int n : new int[] {-1, 4, MIN, MAX, -2}) {
            EDGE.refused("P18 false when there are not so many constructors", some(), call().clear(n, 0), 0);
        }
        for (int n : new int[] {-1, SCHEMES + 1, MIN, MAX, -2}) {
            EDGE.refused("P18 false when there are not so many schemes", some(), call().clear(3, n), 0);
            EDGE.refused("P18 false when there are not so many schemes", some().push(6, 1).push(2, 0), call().clear(3, n), 0);
        }
        EDGE.refused("P18 false when there are neither so many", some(), call().clear(4, SCHEMES + 1), 0);
        EDGE.refused("P18 false when there are neither so many", some(), call().clear(-1, -1), 0);
        EDGE.answers("P18 all constructors", some(), call().clear(3, 1).count(0).count(3).clear(3, 1).count(0),
            new long[] {1, 3, 1, 1, 3});
        EDGE.answers("P18 no constructors", some(), call().clear(0, 0).count(0).count(3).constructor(8, 2).count(0),
            new long[] {1, 0, 0, 0, 1});
        EDGE.answers("P18 nothing of nothing", call(), call().clear(0, 0), 1);
        EDGE.answers("P18 constructors that went can't be asked for", some().clear(2, 0), call().clear(3, 0), 0);
        EDGE.answers("P18 schemes that went can't be asked for", some().clear(3, 1), call().clear(3, 2), 0);
    }

    private static void clearOfWhatIsNotClosed() {
        String sentence = "P18 false when one of these schemes is not closed";
        EDGE.refused(sentence, some(), call().clear(3, 2), 0);
        EDGE.refused(sentence, some(), call().clear(3, 3), 0);
        EDGE.refused(sentence, some(), call().clear(3, 4), 0);
        EDGE.refused(sentence + ": by a row", some().clear(3, 1).record(true).scheme(0), call().clear(3, 2), 0);
        EDGE.refused(sentence + ": by a rigid one", some().clear(3, 1).rigid(true).scheme(0), call().clear(3, 2), 0);
        EDGE.answers("P18 it does not matter of those that go", some(), call().clear(3, 1), 1);
        EDGE.answers("P18 all, when all are closed", some().clear(3, 1).built(0).scheme(0), call().clear(3, 2).count(3)
            .count(5).count(6), new long[] {1, 2, 5, 3});
        EDGE.refused(sentence + ", though what it has is bound by now", some().level(0).built(0)
            .unify(5, TYPES), call().clear(3, 2), 0);
    }

    private static void clearOfAConstructorThatWouldGo() {
        String sentence = "P18 false when one of these schemes has a type built of a constructor that would go";
        EDGE.refused(sentence, some(), call().clear(1, 1), 0);
        EDGE.refused(sentence, some(), call().clear(0, 1), 0);
        EDGE.answers("P18 the last that stays", some(), call().clear(2, 1).instance(0).look(1, 0L, 1).built(2),
            new long[] {1, 3, 1, NONE});
        Calls two = some().clear(3, 1).variable(false, 0).built(2).scheme(1).built(0).scheme(2);
        EDGE.refused(sentence, two, call().clear(2, 2), 0);
        EDGE.refused(sentence, two, call().clear(2, 3), 0);
        EDGE.answers("P18 it does not matter of those that go", two, call().clear(2, 1), 1);
        EDGE.answers("P18 with all constructors", two, call().clear(3, 3), 1);
        EDGE.refused(sentence + ", alone", call().constructor(0, 1).built(0).scheme(0), call().clear(0, 1), 0);
        EDGE.refused(sentence + ", though none is quantified", call().constructor(0, 1).constructor(0, 1).built(0).scheme(0)
            .built(1).scheme(1), call().clear(1, 2), 0);
        EDGE.answers("P18 it does not matter of types", two, call().clear(0, 0), 1);
    }

    private static void allTypesAreGone() {
        String sentence = "P18 all types are gone, and what is pushed; the present level is 0";
        Calls all = call().clear(3, 1);
        for (int what = 0; what <= 8; what++) {
            all.count(what);
        }
        EDGE.answers(sentence, some().push(6, 1), all.look(0, 0L, 0).record(false).look(0, 0L, 2).variable(false, 0).look(1, 0L, 4),
            new long[] {1, 3, 0, 0, 1, 0, 4, 3, 0, 0, NONE, 0, 0, 1, 0});
        EDGE.answers("P18 the first so many schemes stay as they were", some(), call().clear(3, 1).quantified(0, 0)
            .quantified(0, 2).instance(0).look(3, 0L, 0).look(3, 0x0101L, 4).look(3, 2L, 3).alike(0, 0).scheme(3)
            .level(1).instance(0).level(0).scheme(7).alike(0, 2).alike(0, 1),
            new long[] {1, 2, 1, 3, 3, 0, 1, 1, 1, 0, 7, 1, 2, 1, 0});
        EDGE.answers("P18 the first so many constructors stay as they were", some().clear(3, 1), call().built(1).variable(true, 0)
            .push(NONE, 0).built(1).look(1, 0L, 3).built(2), new long[] {NONE, 0, 1, 1, 1, 2});
    }
}
