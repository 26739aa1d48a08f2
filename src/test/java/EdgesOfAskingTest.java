/** Promises 11, 12, 13 and 19, and paths: each sentence that names an edge, by the sentence. */
public final class EdgesOfAskingTest {
    private static final int NONE = TypeLoom.NONE;
    private static final int MIN = Integer.MIN_VALUE;
    private static final int MAX = Integer.MAX_VALUE;
    private static final int TYPES = 9;
    private static final Edge EDGE = new Edge("EdgesOfAskingTest");

    public static void main(String[] args) {
        sameOfNoSuchTypes();
        sameOfNoSuchPaths();
        whatIsTheSame();
        paths();
        lookAtNothing();
        lookAtEachKind();
        lookAtAnotherWhat();
        lookAtEquality();
        labelsOfNothing();
        labelsAsTheyAreNow();
        countOfAnotherWhat();
        EDGE.end();
    }

    private static Calls call() {
        return new Calls();
    }

    /**
     * The types: 0 a variable with a set, 1 a rigid one, 2 built of nothing, 3 built of two, 4 a function,
     * 5 a closed record, 6 an open one, 7 a variable that stands for 5, 8 a closed record of nothing.
     */
    private static Calls some() {
        return new Calls().constructor(0, 1).constructor(2, 1).level(3).variable(false, 1).level(2).rigid(true).built(0)
            .arguments(0, 1).built(1).function(3, 1).push(8, 4).push(6, 1).record(false).push(6, 3).record(true)
            .level(3).variable(false, 0).unify(7, 5).record(false).level(4);
    }

    private static void sameOfNoSuchTypes() {
        for (int type : new int[] {-1, TYPES, -2, MIN, MAX}) {
            EDGE.refused("P11 false when there are no such types", some(), call().same(type, 0L, 0, 0L), 0);
            EDGE.refused("P11 false when there are no such types", some(), call().same(0, 0L, type, 0L), 0);
            EDGE.refused("P11 false when there are no such types", some(), call().same(type, 0L, type, 0L), 0);
        }
        EDGE.refused("P11 false when they are gone", some().clear(2, 0), call().same(0, 0L, 0, 0L), 0);
    }

    private static void sameOfNoSuchPaths() {
        String sentence = "P11 false when there are no such paths in them";
        int[] parts = {0, 0, 0, 2, 2, 2, 1, 2, 0};
        for (int t = 0; t < TYPES; t++) {
            for (long path : new long[] {parts[t] + 1, 128, 129, 255, 0x0100L | parts[t] + 1, -1L, Long.MIN_VALUE | 255}) {
                EDGE.answers(sentence, some(), call().same(t, path, t, path), 0);
                EDGE.answers(sentence, some(), call().same(t, path, t, 0L), 0);
                EDGE.answers(sentence, some(), call().same(t, 0L, t, path), 0);
            }
            if (parts[t] > 0) {
                EDGE.answers("P11 the last part", some(), call().same(t, parts[t], t, parts[t]), 1);
            }
        }
        EDGE.refused(sentence, some(), call().same(3, 3L, 3, 3L), 0);
        EDGE.refused(sentence, some(), call().same(3, 0x0101L, 3, 0x0101L), 0);
        EDGE.refused(sentence, some(), call().same(0, 1L, 0, 1L), 0);
    }

    private static void whatIsTheSame() {
        String other = "Terms: the same free variable, the same rigid one, of the same constructor";
        Calls leaves = some().variable(false, 1).rigid(true).built(0).constructor(0, 1).built(2);
        EDGE.answers(other, leaves, call().same(0, 0L, TYPES, 0L).same(1, 0L, TYPES + 1, 0L).same(2, 0L, TYPES + 2, 0L)
            .same(2, 0L, TYPES + 3, 0L).same(0, 0L, 0, 0L).same(1, 0L, 1, 0L), new long[] {0, 0, 1, 0, 1, 1});
        String records = "Terms: records of the same labels, both closed or of the same row";
        Calls more = some().push(6, 3).record(false).push(6, 3).record(true).push(7, 3).record(false).push(6, 1).push(8, 4)
            .record(false).record(true).record(true).push(6, 1).record(false);
        EDGE.answers(records, more, call().same(6, 0L, 9, 0L).same(6, 0L, 10, 0L).same(9, 0L, 11, 0L).same(5, 0L, 12, 0L)
            .same(7, 0L, 12, 0L).same(8, 0L, 13, 0L).same(13, 0L, 14, 0L).same(9, 0L, 15, 0L).same(5, 0L, 15, 0L),
            new long[] {0, 0, 0, 1, 1, 0, 0, 0, 0});
        EDGE.answers(records, more, call().unify(6, 10).same(6, 0L, 10, 0L).unify(13, 14).same(13, 0L, 14, 0L)
            .unify(13, 8).same(14, 0L, 8, 0L).unify(10, 9).same(6, 0L, 9, 0L), new long[] {1, 1, 1, 1, 1, 1, 1, 1});
        String kinds = "Terms: of one kind";
        for (int t = 0; t < TYPES; t++) {
            for (int u = 0; u < TYPES; u++) {
                boolean same = t == u || t == 5 && u == 7 || t == 7 && u == 5;
                EDGE.answers(kinds, some(), call().same(t, 0L, u, 0L), same ? 1 : 0);
            }
        }
    }

    private static void paths() {
        // A function to a function, nine deep; the innermost is from 1 to 0.
        Calls deep = call().rigid(false).rigid(true).function(1, 0);
        for (int i = 2; i < 10; i++) {
            deep.function(1, i);
        }
        String bytes = "Terms: a path's bytes, the lowest first";
        EDGE.answers(bytes, deep, call().same(10, 0x0102L, 1, 0L), 1);
        EDGE.answers(bytes, deep, call().same(10, 0x0201L, 1, 0L), 0);
        EDGE.answers(bytes, deep, call().look(10, 0x0201L, 0), NONE);
        String eight = "Terms: paths of up to eight bytes";
        EDGE.answers(eight, deep, call().same(10, 0x0202020202020202L, 2, 0L), 1);
        EDGE.answers(eight, deep, call().same(10, 0x0102020202020202L, 1, 0L), 1);
        EDGE.answers(eight, deep, call().same(10, 0x0002020202020202L, 3, 0L), 1);
        EDGE.answers(eight, deep, call().same(9, 0x0202020202020202L, 0, 0L), 1);
        EDGE.answers(eight, deep, call().same(8, 0x0202020202020202L, 0, 0L), 0);
        EDGE.answers(eight, deep, call().look(8, 0x0202020202020202L, 0), NONE);
        EDGE.answers(eight, deep, call().look(8, 0x0002020202020202L, 0), 1);
        String first = "Terms: up to the first that is 0";
        for (long behind : new long[] {0x0500L, 0x010100L, Long.MIN_VALUE, -256L, 0xFFFF000000000000L}) {
            EDGE.answers(first, deep, call().same(10, behind, 10, 0L), 1);
            EDGE.answers(first, deep, call().same(10, behind << 8 | 2L, 9, 0L), 1);
            EDGE.answers(first, deep, call().look(10, behind, 2), 2);
        }
        Calls wide = call().rigid(false).rigid(true).fields(0, 126, 0).push(127, 1).record(false).fields(0, 126, 1)
            .push(127, 2).record(true);
        String greatest = "Terms: parts from 1 on, up to 128";
        EDGE.answers(greatest, wide, call().same(2, 128L, 1, 0L).same(2, 127L, 0, 0L).same(2, 1L, 0, 0L).same(3, 128L, 2, 0L)
            .same(3, 0x8080L, 1, 0L).same(3, 0x7F80L, 0, 0L).same(3, 0x8180L, 1, 0L).same(3, 0x7F7FL, 0, 0L)
            .look(3, 129L, 0).look(3, 255L, 0).look(3, 0x8080L, 0).label(3, 128L, 127).label(3, 127L, 127),
            new long[] {1, 1, 1, 1, 1, 1, 0, 0, NONE, NONE, 1, 127, NONE});
    }

    private static void lookAtNothing() {
        for (int what = 0; what <= 6; what++) {
            for (int type : new int[] {-1, TYPES, -2, MIN, MAX}) {
                EDGE.answers("P12 NONE when there is no such type", some(), call().look(type, 0L, what), NONE);
            }
            for (long path : new long[] {3, 128, 255, 0x0102L, 0x0301L, -1L}) {
                EDGE.answers("P12 NONE when there is no such part", some(), call().look(4, path, what), NONE);
            }
            EDGE.answers("P12 NONE when it is gone", some().clear(2, 0), call().look(0, 0L, what), NONE);
            EDGE.refused("P12 looking changes nothing", some(), call().look(TYPES, 0L, what), NONE);
        }
    }

    private static void lookAtEachKind() {
        String[] names = {"a free variable", "a rigid one", "built of nothing", "built", "a function", "a closed record",
            "an open record", "a variable that stands for a record", "a closed record of nothing"};
        long[][] due = {
            {0, NONE, 0, 0, 3, 1, NONE}, {1, NONE, 0, 1, 2, NONE, NONE}, {2, 0, 0, 1, NONE, NONE, NONE},
            {2, 1, 2, 0, NONE, NONE, NONE}, {3, NONE, 2, 0, NONE, NONE, NONE}, {4, NONE, 2, 0, NONE, NONE, 0},
            {4, NONE, 1, 0, 2, NONE, 1}, {4, NONE, 2, 0, NONE, NONE, 0}, {4, NONE, 0, 1, NONE, NONE, 0}};
        for (int t = 0; t < TYPES; t++) {
            Calls all = call();
            for (int what = 0; what <= 6; what++) {
                all.look(t, 0L, what);
                EDGE.refused("P12 looking changes nothing", some(), call().look(t, 0L, what), due[t][what]);
            }
            EDGE.answers("P12 of " + names[t], some(), all, due[t]);
        }
        // The same of types in types.
        Calls all = call();
        for (int what = 0; what <= 6; what++) {
            all.look(7, 0x010102L, what);
        }
        EDGE.answers("P12 of a variable in a type", some(), all, due[0]);
        EDGE.answers("P12 a set of 0 is one", some().variable(true, 0), call().look(TYPES, 0L, 5), 0);
    }

    private static void lookAtAnotherWhat() {
        for (int what : new int[] {-1, 7, 8, -2, MIN, MAX}) {
            for (int t = 0; t <= TYPES; t++) {
                EDGE.answers("P12 NONE for nothing of that kind", some(), call().look(t, 0L, what), NONE);
            }
            EDGE.refused("P12 looking changes nothing", some(), call().look(6, 1L, what), NONE);
        }
    }

    private static void lookAtEquality() {
        Calls before = call().constructor(1, 0).constructor(1, 1).constructor(1, 2).rigid(true).rigid(false)
            .variable(true, 0).variable(false, 0).function(0, 0);
        int next = 5;
        boolean[] admits = {true, false, true, false, false};
        for (int c = 0; c < 3; c++) {
            for (int t = 0; t < 5; t++) {
                EDGE.answers("Terms: equality 0 never, 1 when all arguments admit it, 2 always", before,
                    call().push(NONE, t).built(c).look(next, 0L, 3), c == 2 || c == 1 && admits[t] ? 1 : 0);
            }
        }
        for (int t = 0; t < 5; t++) {
            EDGE.answers("Terms: a record when all fields do", before,
                call().push(1, 0).push(2, t).record(false).look(next, 0L, 3), admits[t] ? 1 : 0);
            EDGE.answers("Terms: and its row", before, call().push(2, t).record(true).look(next, 0L, 3), 0);
            EDGE.answers("Terms: a function never", before, call().function(0, t).look(next, 0L, 3), 0);
        }
        EDGE.answers("Terms: a row by its wish", before, call().push(2, 0).record(true).unify(2, next).look(next, 0L, 3), 1);
        EDGE.answers("Terms: a record of nothing", before, call().record(false).look(next, 0L, 3), 1);
        EDGE.answers("Terms: an open one of nothing", before, call().record(true).look(next, 0L, 3), 0);
    }

    private static void labelsOfNothing() {
        String sentence = "P13 NONE when there is none";
        for (int i : new int[] {-1, 2, 3, MIN, MAX, 6, 8}) {
            EDGE.refused(sentence, some(), call().label(5, 0L, i), NONE);
        }
        for (int t : new int[] {0, 1, 2, 3, 4, 8}) {
            EDGE.refused(sentence + ", of what has no fields", some(), call().label(t, 0L, 0), NONE);
        }
        for (int type : new int[] {-1, TYPES, -2, MIN, MAX}) {
            EDGE.refused(sentence + ", of no such type", some(), call().label(type, 0L, 0), NONE);
        }
        for (long path : new long[] {3, 1, 0x0302L, -1L}) {
            EDGE.refused(sentence + ", of no record in it", some(), call().label(5, path, 0), NONE);
        }
        EDGE.answers("P13 from 0, by rising labels", some(), call().label(5, 0L, 0).label(5, 0L, 1).label(7, 0L, 0)
            .label(7, 0L, 1).label(6, 0L, 0).label(6, 0L, 1), new long[] {6, 8, 6, 8, 6, NONE});
    }

    private static void labelsAsTheyAreNow() {
        Calls grown = some().push(0, 1).push(32767, 1).push(7, 1).record(true).unify(6, TYPES);
        EDGE.answers("P13 as it is now", grown, call().label(6, 0L, 0).label(6, 0L, 1).label(6, 0L, 2).label(6, 0L, 3)
            .label(6, 0L, 4).label(TYPES, 0L, 1).look(6, 0L, 2), new long[] {0, 6, 7, 32767, NONE, 6, 4});
        EDGE.answers("P12 how many parts it has, as it is now", grown, call().look(6, 4L, 0).look(6, 5L, 0)
            .same(6, 2L, 3, 0L), new long[] {1, NONE, 1});
        Calls in = some().function(6, 6).push(2, 1).record(true).unify(6, TYPES + 1);
        EDGE.answers("P13 of a record in a type", in, call().label(TYPES, 1L, 0).label(TYPES, 2L, 1).label(TYPES, 2L, 2)
            .label(TYPES, 0L, 0), new long[] {2, 6, NONE, NONE});
    }

    private static void countOfAnotherWhat() {
        for (int what : new int[] {-1, 9, 10, -2, MIN, MAX}) {
            EDGE.refused("P19 NONE for another what", some(), call().count(what), NONE);
            EDGE.refused("P19 NONE for another what", call(), call().count(what), NONE);
        }
        Calls all = call();
        for (int what = 0; what <= 8; what++) {
            all.count(what);
        }
        EDGE.answers("P19 how many there are", some().scheme(4).push(1, 1), all, new long[] {2, 9, 1, 1, 7, 4, 4, 1, 4});
        EDGE.answers("P19 rows since the latest clear()", some().clear(2, 0).record(true).record(true), call().count(7), 2);
    }
}
