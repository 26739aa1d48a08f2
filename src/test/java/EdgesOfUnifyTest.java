/**
 * Promise 10, and "to unify" among the terms: each sentence that names an edge, by the sentence. What
 * can't be unified is tried by itself and, both ways round, in types where much has been made equal
 * before the clash is met, or would be after it.
 */
public final class EdgesOfUnifyTest {
    private static final int NONE = TypeLoom.NONE;
    private static final int MIN = Integer.MIN_VALUE;
    private static final int MAX = Integer.MAX_VALUE;
    /** Constructors by their arity and equality. */
    private static final int ZERO = 0;
    private static final int NEVER = 1;
    private static final int ALWAYS = 2;
    private static final int LIST = 3;
    private static final int NEVER_OF = 4;
    private static final int ALWAYS_OF = 5;
    private static final int PAIR = 6;
    private static final Edge EDGE = new Edge("EdgesOfUnifyTest");

    public static void main(String[] args) {
        noSuchTypes();
        whatIsTheSame();
        otherKinds();
        otherParts();
        itself();
        itselfByRows();
        greaterLevels();
        lesserLevels();
        noEquality();
        equality();
        outOfTheSet();
        noSetLeft();
        setsThatAreLeft();
        otherLabels();
        labelsOfOpenOnes();
        moreThan128Fields();
        rowsThatCount();
        EDGE.end();
    }

    private static Calls base() {
        return new Calls().constructor(0, 1).constructor(0, 0).constructor(0, 2).constructor(1, 1).constructor(1, 0)
            .constructor(1, 2).constructor(2, 1);
    }

    private static Calls call() {
        return new Calls();
    }

    /** Two types can't be unified: nor can types with them in it, and nothing changes. */
    private static void clash(String sentence, Calls before, int t, int u) {
        EDGE.refused(sentence, before, call().unify(t, u), 0);
        EDGE.refused(sentence, before, call().unify(u, t), 0);
        Calls more = call().then(before);
        int n = before.made().count(1);
        more.level(3).variable(false, 0).level(1).variable(true, 0).level(2).variable(false, 7)
            .push(1, n).record(true).push(2, n + 2).record(true)
            .function(n, n + 3).function(n + 1, n + 4)
            .function(n + 5, t).function(n + 6, u).function(t, n + 5).function(u, n + 6);
        EDGE.answers(sentence + " (what is beside it can be)", more, call().unify(n + 5, n + 6), 1);
        EDGE.refused(sentence + " (late)", more, call().unify(n + 7, n + 8), 0);
        EDGE.refused(sentence + " (late)", more, call().unify(n + 8, n + 7), 0);
        EDGE.refused(sentence + " (early)", more, call().unify(n + 9, n + 10), 0);
        EDGE.refused(sentence + " (crossed)", more, call().unify(n + 7, n + 10), 0);
    }

    private static void meets(String sentence, Calls before, int t, int u, Calls ask, long[] want) {
        long[] all = new long[want.length + 2];
        System.arraycopy(want, 0, all, 2, want.length);
        all[0] = 1;
        all[1] = 1;
        EDGE.answers(sentence, before, call().unify(t, u).same(t, 0L, u, 0L).then(ask), all);
        EDGE.answers(sentence, before, call().unify(u, t).same(t, 0L, u, 0L).then(ask), all);
        Calls met = call().then(before).unify(t, u);
        EDGE.refused(sentence + ", and once more changes nothing", met, call().unify(u, t), 1);
    }

    private static void noSuchTypes() {
        Calls before = base().level(2).variable(false, 0).level(1).variable(true, 0).built(ZERO);
        for (int type : new int[] {-1, 3, -2, MIN, MAX}) {
            EDGE.refused("P10 false when there are no such types", before, call().unify(type, 0), 0);
            EDGE.refused("P10 false when there are no such types", before, call().unify(0, type), 0);
            EDGE.refused("P10 false when there are no such types", before, call().unify(type, type), 0);
        }
        EDGE.refused("P10 of types that are gone", base().variable(false, 0).clear(7, 0), call().unify(0, 0), 0);
    }

    private static void whatIsTheSame() {
        Calls before = base().level(2).variable(false, 3).rigid(false).push(NONE, 0).built(LIST).function(2, 1)
            .push(5, 3).record(false).push(5, 3).record(true).push(5, 3).record(false);
        for (int t = 0; t < 7; t++) {
            EDGE.refused("P10 a type and itself: nothing must change", before, call().unify(t, t), 1);
        }
        EDGE.refused("P10 two that are the same: nothing must change", before, call().unify(4, 6), 1);
    }

    private static void otherKinds() {
        // A type of every kind but variables; the two rigid ones are alike but not the same.
        Calls before = base().rigid(true).rigid(true).built(ZERO).built(ALWAYS).function(2, 2).record(false).record(true);
        for (int t = 0; t < 7; t++) {
            for (int u = t + 1; u < 7; u++) {
                if (t != 5 || u != 6) {
                    clash("P10 can't become the same", before, t, u);
                }
            }
        }
    }

    private static void otherParts() {
        Calls before = base().built(ZERO).built(ALWAYS).variable(false, 0)
            .arguments(2, 0).built(PAIR).arguments(1, 2).built(PAIR)
            .function(2, 0).function(1, 2)
            .push(1, 2).push(2, 0).record(false).push(1, 1).push(2, 2).record(true);
        clash("P10 arguments can't become the same", before, 3, 4);
        clash("P10 nor from and to", before, 5, 6);
        clash("P10 nor fields", before, 7, 8);
        meets("P10 one variable in both is enough", base().built(ZERO).variable(false, 0).arguments(1, 0).built(PAIR)
            .arguments(0, 1).built(PAIR), 2, 3, call().look(1, 0L, 1), new long[] {ZERO});
    }

    private static void itself() {
        String sentence = "P10 no type has itself in it";
        Calls before = base().variable(false, 0).variable(false, 0).push(NONE, 0).built(LIST).push(NONE, 2).built(LIST)
            .function(1, 0).push(1, 0).record(false).push(1, 0).record(true).push(NONE, 1).built(LIST);
        for (int u = 2; u <= 6; u++) {
            clash(sentence, before, 0, u);
        }
        clash(sentence + ", through another", call().then(before).function(0, 1).function(7, 2), 8, 9);
        clash(sentence + ", by what a variable stands for", call().then(before).unify(1, 2), 0, 1);
        clash(sentence + ", by what a variable stands for", call().then(before).unify(1, 6), 0, 1);
        meets("P10 a variable and itself", before, 0, 0, call().look(0, 0L, 0), new long[] {0});
        meets("P10 a variable that becomes one of its own", call().then(before).unify(0, 1), 2, 7,
            call().look(0, 0L, 0).same(0, 0L, 1, 0L), new long[] {0, 1});
    }

    private static void itselfByRows() {
        String sentence = "P10 no type has itself in it, by a row";
        Calls before = base().rigid(false).push(1, 0).record(true).push(2, 1).record(true).push(NONE, 1).built(LIST)
            .push(2, 3).record(true).function(1, 0).push(3, 5).record(false);
        clash(sentence, before, 1, 2);
        clash(sentence, before, 1, 4);
        clash(sentence, call().then(before).push(1, 0).push(3, 5).record(false), 1, 7);
        // A twin of the first record, by an instance: it has the same row, but a field of its own.
        Calls twins = base().level(1).variable(false, 0).level(0).push(1, 0).record(true).scheme(1).instance(0)
            .push(2, 3).record(true);
        clash(sentence + " that two records have", twins, 1, 4);
        meets("P10 a field may be a record of the same row", twins, 0, 3, call().look(1, 1L, 0).look(1, 0x101L, 0),
            new long[] {4, 0});
    }

    private static void greaterLevels() {
        String sentence = "P10 nothing that has rigid ones of a greater level in it";
        Calls before = base().level(2).rigid(false).level(1).variable(false, 0).push(NONE, 0).built(LIST).function(2, 2)
            .push(4, 3).record(false).push(4, 0).record(true).record(true).level(2).push(4, 0).record(true);
        for (int u : new int[] {0, 2, 3, 4, 5}) {
            clash(sentence, before, 1, u);
        }
        clash(sentence + ": a row's fields", before, 6, 4);
        clash(sentence + ": a row's fields", before, 6, 7);
        Calls lowered = base().level(5).variable(false, 0).rigid(true).level(2).variable(false, 0).push(NONE, 0).built(LIST)
            .unify(2, 3);
        clash(sentence + ": a variable that was made to have less", lowered, 0, 1);
        Calls rows = base().level(5).rigid(true).record(true).level(2).variable(false, 0).unify(1, 2).level(5)
            .push(1, 0).record(true);
        clash(sentence + ": a row that was made to have less", rows, 1, 3);
        // In one call: a variable gets the lesser level and the rigid one as well.
        Calls both = base().level(2).variable(false, 0).rigid(false).level(1).variable(false, 0).arguments(0, 0).built(PAIR)
            .arguments(2, 1).built(PAIR);
        clash(sentence + ": both in one call", both, 3, 4);
        meets("P10 a rigid one of the same level", base().level(3).rigid(false).variable(false, 0), 0, 1,
            call().look(1, 0L, 0).look(1, 0L, 4), new long[] {1, 3});
        meets("P10 a rigid one of a lesser level", base().rigid(false).level(1).variable(false, 0), 0, 1,
            call().look(1, 0L, 0).look(1, 0L, 4), new long[] {1, 0});
        meets("P10 a row of the same level as a rigid one", base().level(3).rigid(false).push(1, 0).record(true).record(true),
            1, 2, call().look(2, 0L, 2).look(2, 0L, 4), new long[] {1, 3});
        meets("P10 no variable or row stands for it", base().level(9).rigid(false).push(NONE, 0).built(LIST)
            .push(NONE, 0).built(LIST), 1, 2, call().look(0, 0L, 4), new long[] {9});
    }

    private static void lesserLevels() {
        Calls two = base().level(100).variable(false, 0).level(0).variable(false, 0);
        meets("P10 the one that is left has the lesser level", two, 0, 1, call().look(0, 0L, 4).look(1, 0L, 4),
            new long[] {0, 0});
        Calls in = base().level(7).variable(false, 0).push(1, 0).record(true).level(3).variable(false, 0).level(9)
            .variable(false, 0);
        meets("P10 levels of variables and rows in it are made less", in, 1, 2, call().look(0, 0L, 4).look(1, 0L, 4),
            new long[] {3, 3});
        meets("P10 they are not made more", in, 1, 3, call().look(0, 0L, 4).look(1, 0L, 4), new long[] {7, 7});
        Calls rows = base().level(6).variable(false, 0).push(1, 0).record(true).level(4).variable(false, 0).push(2, 2)
            .record(true);
        // The row of level 4 stands for the field of label 1; the row of level 6 for the one of label 2.
        meets("P10 a row's fields have its level", rows, 1, 3, call().look(0, 0L, 4).look(2, 0L, 4).look(1, 0L, 4)
            .look(3, 0L, 4), new long[] {4, 4, 4, 4});
        Calls higher = base().level(6).variable(false, 0).variable(false, 0).push(1, 0).record(true).level(4).push(2, 1)
            .record(true);
        meets("P10 only the fields that it stands for", higher, 2, 3, call().look(0, 0L, 4).look(1, 0L, 4),
            new long[] {4, 6});
        meets("P10 a row that is left has the lesser level", base().level(6).record(true).level(4).record(true), 0, 1,
            call().look(0, 0L, 4).look(1, 0L, 4).look(0, 0L, 6), new long[] {4, 4, 1});
    }

    private static void noEquality() {
        String sentence = "P10 with a wish only for what admits equality";
        Calls before = base().variable(true, 0).variable(true, 0).function(1, 1).built(NEVER).push(NONE, 1).built(NEVER_OF)
            .push(NONE, 2).built(LIST).rigid(false).push(NONE, 6).built(LIST).push(1, 1).push(2, 6).record(true);
        for (int u = 2; u <= 8; u++) {
            clash(sentence, before, 0, u);
        }
        Calls rows = base().variable(true, 0).record(true).unify(0, 1).rigid(false).push(1, 2).record(true)
            .push(1, 2).record(false).built(NEVER).push(1, 5).record(true).function(2, 2).push(1, 7).record(false);
        for (int u : new int[] {3, 4, 6, 8}) {
            clash(sentence + ": a row", rows, 1, u);
        }
        Calls late = base().variable(false, 0).push(NONE, 0).built(LIST).variable(true, 0).unify(1, 2).function(2, 2)
            .rigid(false);
        clash(sentence + ": a variable that got the wish", late, 0, 3);
        clash(sentence + ": a variable that got the wish", late, 0, 4);
        Calls both = base().variable(false, 0).variable(true, 0).rigid(false).arguments(0, 0).built(PAIR).arguments(2, 1)
            .built(PAIR).arguments(1, 2).built(PAIR);
        clash(sentence + ": both in one call", both, 3, 4);
        clash(sentence + ": both in one call", both, 3, 5);
    }

    private static void equality() {
        Calls before = base().variable(true, 0).variable(false, 0).function(1, 1).push(NONE, 2).built(ALWAYS_OF)
            .push(NONE, 1).built(LIST).push(1, 1).push(2, 3).record(true).rigid(true).record(false);
        meets("P10 the arguments of constructors with equality 2 need none", before, 0, 3,
            call().look(1, 0L, 3).look(0, 0L, 3).look(2, 0L, 3), new long[] {0, 1, 0});
        meets("P10 variables in it get the wish", before, 0, 4, call().look(1, 0L, 3), new long[] {1});
        meets("P10 variables and rows in it get the wish", before, 0, 5,
            call().look(1, 0L, 3).look(5, 0L, 3).look(3, 0L, 3), new long[] {1, 1, 1});
        meets("P10 a rigid one that has it", before, 0, 6, call().look(0, 0L, 0), new long[] {1});
        meets("P10 a record of nothing", before, 0, 7, call().look(0, 0L, 3), new long[] {1});
        meets("P10 of two variables the one that is left has the wish", before, 0, 1,
            call().look(0, 0L, 3).look(1, 0L, 3).look(0, 0L, 0), new long[] {1, 1, 0});
        Calls rows = base().variable(true, 0).record(true).unify(0, 1).variable(false, 0).push(1, 2).record(true)
            .record(true).record(false);
        meets("P10 fields that a row with a wish stands for get it", rows, 1, 3, call().look(2, 0L, 3).look(3, 0L, 3),
            new long[] {1, 1});
        meets("P10 a row that is left has the wish", rows, 4, 1, call().look(4, 0L, 3), new long[] {1});
        meets("P10 a row with a wish may stand for nothing", rows, 1, 5, call().look(1, 0L, 6).look(1, 0L, 3),
            new long[] {0, 1});
        Calls other = base().variable(true, 0).record(true).unify(0, 1).variable(false, 0).push(1, 2).record(true)
            .variable(true, 0).push(2, 4).record(true).unify(1, 5);
        meets("P10 a wish that comes with other fields", other, 1, 3, call().look(2, 0L, 3).look(3, 0L, 3),
            new long[] {1, 1});
        // The first record's row has the wish, what is in its field has none.
        Calls one = base().variable(false, 0).push(NONE, 0).built(ALWAYS_OF).push(1, 1).record(true).variable(true, 0)
            .unify(2, 3).variable(false, 0).push(2, 4).record(true);
        meets("P10 only the fields that the row with the wish stands for", one, 2, 5,
            call().look(0, 0L, 3).look(4, 0L, 3).look(5, 0L, 3), new long[] {0, 1, 1});
    }

    private static void outOfTheSet() {
        String sentence = "P10 with a set only for a type built of one of it";
        Calls before = base().variable(false, 3).built(ALWAYS).rigid(true).push(NONE, 1).built(LIST).function(1, 1)
            .record(false).record(true).arguments(1, 1).built(PAIR);
        for (int u = 1; u <= 7; u++) {
            clash(sentence, before, 0, u);
        }
        Calls of = base().variable(false, 7).built(ZERO).built(NEVER).built(ALWAYS);
        for (int c = 0; c < 3; c++) {
            meets("P10 a type built of one of it", of, 0, 1 + c, call().look(0, 0L, 0).look(0, 0L, 1).look(0, 0L, 5),
                new long[] {2, c, NONE});
        }
        clash(sentence + ", once it has one", call().then(of).unify(0, 1), 0, 2);
        Calls both = base().variable(false, 0).variable(false, 1).built(ALWAYS).arguments(0, 0).built(PAIR).arguments(2, 1)
            .built(PAIR).arguments(1, 2).built(PAIR);
        clash(sentence + ": both in one call", both, 3, 4);
        clash(sentence + ": both in one call", both, 3, 5);
    }

    private static void noSetLeft() {
        String sentence = "P10 no set is left without any";
        Calls before = base().variable(false, 1).variable(false, 6).variable(false, 2).variable(true, 0).variable(true, 5)
            .push(NONE, 2).built(LIST).push(1, 2).record(true).variable(false, 3);
        clash(sentence, before, 0, 1);
        clash(sentence, before, 0, 2);
        clash(sentence + " that admits equality", before, 2, 3);
        clash(sentence + " that admits equality", before, 2, 4);
        clash(sentence + " that admits equality, in a type", before, 3, 5);
        clash(sentence + " that admits equality, in a record", before, 3, 6);
        clash(sentence + " that admits equality, of two", call().then(before).unify(1, 7), 1, 3);
        Calls three = base().variable(false, 3).variable(false, 6).variable(false, 5).arguments(0, 1).built(PAIR)
            .arguments(2, 2).built(PAIR);
        clash(sentence + ", of three in one call", three, 3, 4);
    }

    private static void setsThatAreLeft() {
        Calls before = base().variable(false, 3).variable(false, 6).variable(false, 0).variable(true, 0).variable(false, 7)
            .push(NONE, 4).built(LIST).push(NONE, 4).built(ALWAYS_OF);
        meets("P10 a variable whose set has no others", before, 0, 1, call().look(0, 0L, 5).look(1, 0L, 5).look(0, 0L, 0),
            new long[] {2, 2, 0});
        meets("P10 a variable that is bound to none gets the set", before, 0, 2, call().look(2, 0L, 5), new long[] {3});
        meets("P10 with a wish only those that admit equality", before, 4, 3, call().look(4, 0L, 5).look(3, 0L, 5)
            .look(4, 0L, 3), new long[] {5, 5, 1});
        meets("P10 one that is left", before, 0, 3, call().look(0, 0L, 5), new long[] {1});
        meets("P10 in a type that must admit it", before, 5, 3, call().look(4, 0L, 5).look(4, 0L, 3), new long[] {5, 1});
        meets("P10 in one that admits it always", before, 6, 3, call().look(4, 0L, 5).look(4, 0L, 3), new long[] {7, 0});
        meets("P10 two of no set", before, 2, 3, call().look(2, 0L, 5), new long[] {0});
    }

    private static void otherLabels() {
        Calls before = base().rigid(true).push(1, 0).push(2, 0).record(false).push(1, 0).record(false).push(1, 0)
            .push(3, 0).record(false).record(false).push(1, 0).push(2, 0).push(3, 0).record(true).push(4, 0).record(true);
        for (int t = 1; t <= 4; t++) {
            for (int u = t + 1; u <= 6; u++) {
                clash("P10 records of the same labels, both closed", before, t, u);
            }
        }
        meets("P10 a closed record of nothing and an open one", base().record(true).record(false), 0, 1,
            call().look(0, 0L, 6).look(0, 0L, 4).look(0, 0L, 2), new long[] {0, NONE, 0});
        clash("P10 a row that stands for no fields and no row", base().rigid(true).push(1, 0).record(true).push(1, 0)
            .record(false).unify(1, 2).push(2, 0).record(true), 1, 3);
    }

    private static void labelsOfOpenOnes() {
        Calls before = base().rigid(true).variable(false, 0).push(2, 0).record(true).push(1, 1).push(3, 1).record(true)
            .push(2, 1).push(3, 0).record(true);
        meets("P10 a row for fields of labels that the record has not", before, 2, 3, call().label(2, 0L, 0).label(2, 0L, 1)
            .label(2, 0L, 2).label(2, 0L, 3).label(3, 0L, 1).look(2, 0L, 6).look(1, 0L, 0),
            new long[] {1, 2, 3, NONE, 2, 1, 0});
        meets("P10 a row for fields alone", before, 2, 4, call().label(2, 0L, 0).label(2, 0L, 1).label(2, 0L, 2)
            .look(1, 0L, 0), new long[] {2, 3, NONE, 1});
        Calls ends = base().rigid(true).push(32767, 0).record(true).push(0, 0).record(true);
        meets("P10 the least label and the greatest", ends, 1, 2, call().label(1, 0L, 0).label(1, 0L, 1).label(1, 0L, 2)
            .look(1, 0L, 2), new long[] {0, 32767, NONE, 2});
    }

    private static void moreThan128Fields() {
        String sentence = "P10 no record has more than 128 fields";
        Calls most = base().rigid(true).fields(0, 127, 0).record(true).push(127, 0).record(true).push(128, 0).record(true);
        clash(sentence, most, 1, 3);
        meets("P10 a record of 128 fields may get a row", most, 1, 2, call().look(2, 0L, 2).label(2, 0L, 127)
            .look(2, 0L, 6), new long[] {128, 127, 1});
        Calls halves = base().rigid(true).fields(0, 63, 0).record(true).fields(64, 127, 0).record(true).fields(63, 127, 0)
            .record(true).fields(64, 128, 0).record(true);
        meets("P10 128 in all", halves, 1, 2, call().look(1, 0L, 2).label(1, 0L, 127).label(1, 0L, 128).look(1, 128L, 0),
            new long[] {128, 127, NONE, 1});
        meets("P10 128 in all, one in both", halves, 1, 3, call().look(1, 0L, 2), new long[] {128});
        clash(sentence + ": 129 in all", halves, 1, 4);
        Calls closed = base().rigid(true).fields(1, 128, 0).record(false).push(128, 0).record(true).push(0, 0).record(true);
        meets("P10 a closed one of 128", closed, 1, 2, call().look(2, 0L, 2).look(2, 0L, 6), new long[] {128, 0});
        clash(sentence + ", nor a closed one others than it has", closed, 1, 3);
    }

    private static void rowsThatCount() {
        Calls before = base().rigid(true).push(1, 0).record(true).push(2, 0).record(true);
        EDGE.answers("Terms: rows that come to be as open records are unified count for nothing", before,
            call().count(7).count(1).count(4).unify(1, 2).count(7).count(1).count(4), new long[] {2, 3, 2, 1, 2, 3, 2});
    }
}
