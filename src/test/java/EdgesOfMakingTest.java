/** Promises 1 to 9: each sentence that names an edge, by the sentence. The full ones are in FullTest. */
public final class EdgesOfMakingTest {
    private static final int NONE = TypeLoom.NONE;
    private static final int FULL = TypeLoom.FULL;
    private static final int MIN = Integer.MIN_VALUE;
    private static final int MAX = Integer.MAX_VALUE;
    private static final int TYPES = 9;
    private static final int CONSTRUCTORS = 5;
    private static final Edge EDGE = new Edge("EdgesOfMakingTest");

    public static void main(String[] args) {
        aNewObject();
        arity();
        equality();
        pushedTypes();
        pushedLabels();
        aFieldWithThatLabel();
        fullWhen128Are();
        whatIsPushedGoes();
        builtOfNoSuchConstructor();
        notJustAsManyArguments();
        aFieldIsPushed();
        argumentsInThisOrder();
        anArgumentIsPushed();
        recordsOfNothingAndOfMost();
        theRowOfARecord();
        functionsOfNoSuchType();
        setBelowZero();
        setOfNoSuchConstructors();
        setOfThoseWithArguments();
        setWithAWish();
        setsOfTheConstructorsUpTo30();
        rigidOnes();
        levels();
        EDGE.end();
    }

    /** Types of every kind, two levels, a variable that stands for something, schemes; nothing pushed. */
    private static Calls some() {
        return new Calls().constructor(0, 1).constructor(1, 1).constructor(0, 0).constructor(2, 2).constructor(8, 1)
            .level(2).variable(false, 0).variable(true, 1).rigid(true).function(0, 2)
            .push(NONE, 0).built(1).push(5, 0).push(3, 2).record(true)
            .level(1).variable(false, 5).variable(false, 0).unify(7, 4)
            .scheme(3).scheme(2).push(9, 2).record(false).scheme(8);
    }

    private static Calls someWithArguments() {
        return some().arguments(0, 2);
    }

    private static Calls someWithFields() {
        return some().push(7, 2).push(4, 0);
    }

    /** By all three: with nothing, arguments or fields pushed. */
    private static void refused(String sentence, Calls call, long want) {
        EDGE.refused(sentence, some(), call, want);
        EDGE.refused(sentence, someWithArguments(), call, want);
        EDGE.refused(sentence, someWithFields(), call, want);
    }

    private static Calls call() {
        return new Calls();
    }

    private static void aNewObject() {
        Calls none = call();
        for (int what = 0; what <= 8; what++) {
            EDGE.answers("P1 no constructors, no types, nothing pushed", none, call().count(what), 0);
        }
        EDGE.answers("P1 the present level is 0 at first", none, call().level(9), 0);
        EDGE.answers("P1 constructors are numbered from 0", none, call().constructor(0, 0), 0);
        EDGE.answers("P1 types are numbered from 0", none, call().rigid(false), 0);
        EDGE.answers("P1 schemes are numbered from 0", call().rigid(false), call().scheme(0), 0);
        EDGE.refused("P1 no constructors", none, call().built(0), NONE);
        EDGE.refused("P1 no constructors", none, call().variable(false, 1), NONE);
        EDGE.refused("P1 no types", none, call().push(NONE, 0), NONE);
        EDGE.refused("P1 no types", none, call().push(0, 0), NONE);
        EDGE.refused("P1 no types", none, call().function(0, 0), NONE);
        EDGE.refused("P1 no types", none, call().unify(0, 0), 0);
        EDGE.refused("P1 no types", none, call().same(0, 0L, 0, 0L), 0);
        EDGE.refused("P1 no types", none, call().look(0, 0L, 0), NONE);
        EDGE.refused("P1 no types", none, call().label(0, 0L, 0), NONE);
        EDGE.refused("P1 no types", none, call().scheme(0), NONE);
        EDGE.refused("P1 no schemes", none, call().quantified(0, 0), NONE);
        EDGE.refused("P1 no schemes", none, call().instance(0), NONE);
        EDGE.refused("P1 no schemes", none, call().alike(0, 0), 0);
        EDGE.refused("P1 no constructors", none, call().clear(1, 0), 0);
        EDGE.refused("P1 no schemes", none, call().clear(0, 1), 0);
        EDGE.answers("P1 nothing pushed", none, call().record(false).look(0, 0L, 2), 0);
    }

    private static void arity() {
        String sentence = "P2 NONE when arity is not as told";
        for (int arity : new int[] {-1, 9, MIN, MAX}) {
            for (int equality = 0; equality <= 2; equality++) {
                refused(sentence, call().constructor(arity, equality), NONE);
            }
        }
        for (int arity = 0; arity <= 8; arity++) {
            EDGE.answers("P2 arity 0 .. 8", some(), call().constructor(arity, 0), CONSTRUCTORS);
            long[] want = new long[arity + 4];
            Calls calls = call().constructor(arity, 0);
            want[0] = CONSTRUCTORS;
            for (int i = 0; i < arity; i++) {
                calls.push(NONE, 0);
                want[i + 1] = i + 1;
            }
            calls.built(CONSTRUCTORS).look(TYPES, 0L, 2).look(TYPES, 0L, 1);
            want[arity + 1] = TYPES;
            want[arity + 2] = arity;
            want[arity + 3] = CONSTRUCTORS;
            EDGE.answers("P2 an arity is what it was told", some(), calls, want);
        }
    }

    private static void equality() {
        for (int equality : new int[] {-1, 3, MIN, MAX}) {
            refused("P2 NONE when equality is not as told", call().constructor(0, equality), NONE);
            refused("P2 NONE when equality is not as told", call().constructor(8, equality), NONE);
        }
        refused("P2 NONE when neither is as told", call().constructor(9, 3), NONE);
        String sentence = "P2 0 never, 1 with its arguments, 2 always";
        for (int equality = 0; equality <= 2; equality++) {
            // Of nothing, of the rigid one that has equality, and of a function.
            Calls of = call().constructor(1, equality).constructor(0, equality).built(CONSTRUCTORS + 1)
                .push(NONE, 2).built(CONSTRUCTORS).push(NONE, 3).built(CONSTRUCTORS)
                .look(TYPES, 0L, 3).look(TYPES + 1, 0L, 3).look(TYPES + 2, 0L, 3);
            EDGE.answers(sentence, some(), of, new long[] {CONSTRUCTORS, CONSTRUCTORS + 1, TYPES, 1, TYPES + 1, 1,
                TYPES + 2, equality > 0 ? 1 : 0, equality > 0 ? 1 : 0, equality > 1 ? 1 : 0});
        }
    }

    private static void pushedTypes() {
        for (int type : new int[] {-1, TYPES, MIN, MAX, FULL}) {
            refused("P3 NONE when there is no such type", call().push(NONE, type), NONE);
            refused("P3 NONE when there is no such type", call().push(1, type), NONE);
        }
        EDGE.answers("P3 how many are pushed", some(), call().push(NONE, 0), 1);
        EDGE.answers("P3 the last type", some(), call().push(1, TYPES - 1), 1);
        EDGE.answers("P3 how many are pushed", someWithArguments(), call().push(NONE, 0), 3);
        EDGE.answers("P3 how many are pushed", someWithFields(), call().push(0, 0), 3);
        EDGE.answers("P3 a field behind arguments", someWithArguments(), call().push(0, 0), 3);
        EDGE.answers("P3 an argument behind fields", someWithFields(), call().push(NONE, 0), 3);
    }

    private static void pushedLabels() {
        for (int label : new int[] {-2, 32768, 65535, 65536, MIN, MAX}) {
            refused("P3 NONE when there is no such label", call().push(label, 0), NONE);
        }
        Calls ends = call().push(32767, 2).push(0, 3).push(32766, 4).record(false)
            .label(TYPES, 0L, 0).label(TYPES, 0L, 1).label(TYPES, 0L, 2).label(TYPES, 0L, 3)
            .same(TYPES, 1L, 3, 0L).same(TYPES, 2L, 4, 0L).same(TYPES, 3L, 2, 0L);
        EDGE.answers("P3 labels 0 .. 32767", some(), ends, new long[] {1, 2, 3, TYPES, 0, 32766, 32767, NONE, 1, 1, 1});
    }

    private static void aFieldWithThatLabel() {
        String sentence = "P3 NONE when a field with that label is pushed";
        EDGE.refused(sentence, someWithFields(), call().push(7, 2), NONE);
        EDGE.refused(sentence, someWithFields(), call().push(4, 2), NONE);
        EDGE.refused(sentence, someWithFields().arguments(0, 2).push(0, 0), call().push(0, 1), NONE);
        EDGE.refused(sentence, some().push(32767, 0), call().push(32767, 0), NONE);
        EDGE.answers("P3 arguments have the label NONE all of them", someWithArguments(), call().push(NONE, 2), 3);
        EDGE.answers("P3 a label that is no longer pushed", someWithFields(), call().record(true).push(7, 2).push(4, 2), 2);
        EDGE.answers("P3 a label that a record has", some(), call().push(5, 5).push(3, 5), 2);
    }

    private static void fullWhen128Are() {
        Calls fields = some().fields(0, 127, 2);
        Calls arguments = some();
        for (int i = 0; i < 128; i++) {
            arguments.push(NONE, 2);
        }
        Calls both = some().fields(0, 63, 2);
        for (int i = 64; i < 128; i++) {
            both.push(NONE, 2);
        }
        for (Calls before : new Calls[] {fields, arguments, both}) {
            EDGE.answers("P3 128 are pushed", before, call().count(2), 128);
            EDGE.refused("P3 FULL when 128 are", before, call().push(NONE, 2), FULL);
            EDGE.refused("P3 FULL when 128 are", before, call().push(128, 2), FULL);
            EDGE.refused("P3 no such type, though 128 are", before, call().push(128, TYPES), NONE);
            EDGE.refused("P3 no such label, though 128 are", before, call().push(32768, 2), NONE);
        }
        EDGE.refused("P3 that label is pushed, though 128 are", fields, call().push(127, 2), NONE);
        EDGE.answers("P3 the 128th", some().fields(0, 126, 2), call().push(127, 2), 128);
        EDGE.answers("P3 the 128th", some().fields(0, 126, 2), call().push(NONE, 2), 128);
        EDGE.refused("P4 of 128 arguments", arguments, call().built(4), NONE);
        EDGE.refused("P5 of 128 arguments", arguments, call().record(false), NONE);
        EDGE.refused("P5 of 64 fields and 64 arguments", both, call().record(true), NONE);
    }

    private static void whatIsPushedGoes() {
        String stays = "P3 what is pushed goes by built(), record() and clear() alone";
        Calls[] others = {call().constructor(0, 0), call().function(0, 1), call().variable(true, 0), call().rigid(true),
            call().level(50), call().unify(0, 2), call().unify(0, 5), call().same(0, 0L, 0, 0L), call().look(5, 0L, 0),
            call().label(5, 0L, 0), call().scheme(4), call().quantified(0, 0), call().instance(0), call().instance(2),
            call().alike(1, 2), call().count(2), call().built(0), call().built(1), call().built(9), call().clear(9, 0),
            call().clear(5, 1)};
        for (Calls other : others) {
            Calls fields = new Calls().then(other).count(2).record(false);
            TypeLoom x = someWithFields().made();
            long[] answers = new long[3];
            for (int i = 0; i < 3; i++) {
                answers[i] = fields.on(x, i);
            }
            int made = (int) answers[2];
            Calls ask = new Calls().then(fields).label(made, 0L, 0).label(made, 0L, 1).label(made, 0L, 2)
                .same(made, 1L, 0, 0L).same(made, 2L, 2, 0L);
            EDGE.answers(stays, someWithFields(), ask, new long[] {answers[0], 2, made, 4, 7, NONE, 1, 1});
            EDGE.answers(stays, someWithArguments(), new Calls().then(other).count(2), 2);
            EDGE.answers(stays, some(), new Calls().then(other).count(2), 0);
        }
        EDGE.answers("P4 nothing is pushed then", someWithArguments(), call().built(3).count(2), 0);
        EDGE.answers("P5 nothing is pushed then", someWithFields(), call().record(false).count(2), 0);
        EDGE.answers("P5 nothing is pushed then", someWithFields(), call().record(true).count(2), 0);
        EDGE.answers("P18 what is pushed is gone", someWithFields(), call().clear(5, 0).count(2), 0);
        EDGE.answers("P18 what is pushed is gone", someWithArguments(), call().clear(5, 0).rigid(true).push(1, 0), 1);
    }

    private static void builtOfNoSuchConstructor() {
        for (int constructor : new int[] {-1, CONSTRUCTORS, MIN, MAX, FULL}) {
            refused("P4 NONE when there is no such constructor", call().built(constructor), NONE);
        }
        EDGE.answers("P4 the last constructor", some().arguments(0, 1, 2, 3, 4, 5, 6, 7), call().built(4), TYPES);
        EDGE.answers("P4 the first constructor", some(), call().built(0), TYPES);
    }

    private static void notJustAsManyArguments() {
        String sentence = "P4 NONE when not just as many arguments";
        EDGE.refused(sentence, some(), call().built(1), NONE);
        EDGE.refused(sentence, some().arguments(0), call().built(0), NONE);
        EDGE.refused(sentence, some().arguments(0), call().built(3), NONE);
        EDGE.refused(sentence, some().arguments(0, 1), call().built(1), NONE);
        EDGE.refused(sentence, some().arguments(0, 1, 2), call().built(3), NONE);
        EDGE.refused(sentence, some().arguments(0, 1, 2, 3, 4, 5, 6), call().built(4), NONE);
        EDGE.refused(sentence, some().arguments(0, 1, 2, 3, 4, 5, 6, 7, 8), call().built(4), NONE);
        EDGE.answers("P4 one that lacked", some().arguments(0), call().built(3).push(NONE, 1).built(3), TYPES);
    }

    private static void aFieldIsPushed() {
        String sentence = "P4 NONE when a field is pushed";
        EDGE.refused(sentence, some().push(0, 0), call().built(0), NONE);
        EDGE.refused(sentence, some().push(0, 0), call().built(1), NONE);
        EDGE.refused(sentence, some().push(0, 0).push(NONE, 1), call().built(3), NONE);
        EDGE.refused(sentence, some().push(NONE, 0).push(0, 1), call().built(3), NONE);
        EDGE.refused(sentence, some().push(NONE, 0).push(0, 1), call().built(1), NONE);
        EDGE.refused(sentence, someWithFields(), call().built(3), NONE);
    }

    private static void argumentsInThisOrder() {
        Calls calls = call().arguments(3, 0, 2, 2, 5, 1, 0, 8).built(4);
        long[] want = new long[18];
        for (int i = 0; i < 8; i++) {
            want[i] = i + 1;
        }
        want[8] = TYPES;
        int[] parts = {3, 0, 2, 2, 5, 1, 0, 8};
        for (int i = 0; i < 8; i++) {
            calls.same(TYPES, i + 1, parts[i], 0L);
            want[9 + i] = 1;
        }
        calls.look(TYPES, 9L, 0);
        want[17] = NONE;
        EDGE.answers("P4 the arguments that were pushed, in this order", some(), calls, want);
    }

    private static void anArgumentIsPushed() {
        String sentence = "P5 NONE when an argument is pushed";
        for (boolean open : new boolean[] {false, true}) {
            EDGE.refused(sentence, some().push(NONE, 0), call().record(open), NONE);
            EDGE.refused(sentence, someWithArguments(), call().record(open), NONE);
            EDGE.refused(sentence, some().push(NONE, 0).push(2, 0), call().record(open), NONE);
            EDGE.refused(sentence, someWithFields().push(NONE, 0), call().record(open), NONE);
        }
        EDGE.answers("P5 no row was made", some().push(NONE, 0), call().record(true).count(7), 1);
    }

    private static void recordsOfNothingAndOfMost() {
        for (boolean open : new boolean[] {false, true}) {
            EDGE.answers("P5 a record of nothing", some(), call().record(open).look(TYPES, 0L, 0).look(TYPES, 0L, 2)
                .label(TYPES, 0L, 0).look(TYPES, 1L, 0).look(TYPES, 0L, 6),
                new long[] {TYPES, 4, 0, NONE, NONE, open ? 1 : 0});
            EDGE.answers("P5 a record of 128 fields", some().fields(100, 227, 2), call().record(open).look(TYPES, 0L, 2)
                .label(TYPES, 0L, 0).label(TYPES, 0L, 127).label(TYPES, 0L, 128).look(TYPES, 128L, 0)
                .look(TYPES, 129L, 0).look(TYPES, 0L, 6).count(4),
                new long[] {TYPES, 128, 100, 227, NONE, 1, NONE, open ? 1 : 0, 134});
        }
    }

    private static void theRowOfARecord() {
        for (int level : new int[] {0, 1, 100}) {
            EDGE.answers("P5 its row has the present level, and no wish", some().level(level), call().record(true)
                .look(TYPES, 0L, 4).look(TYPES, 0L, 3).level(50).look(TYPES, 0L, 4).count(7),
                new long[] {TYPES, level, 0, level, level, 2});
        }
        EDGE.answers("P5 a closed one has no row", some(), call().record(false).look(TYPES, 0L, 4)
            .look(TYPES, 0L, 3).look(TYPES, 0L, 6).count(7), new long[] {TYPES, NONE, 1, 0, 1});
    }

    private static void functionsOfNoSuchType() {
        for (int type : new int[] {-1, TYPES, MIN, MAX, FULL}) {
            refused("P6 NONE when there is no such type", call().function(type, 0), NONE);
            refused("P6 NONE when there is no such type", call().function(0, type), NONE);
            refused("P6 NONE when there is no such type", call().function(type, type), NONE);
        }
        EDGE.answers("P6 from the last type to itself", some(), call().function(TYPES - 1, TYPES - 1), TYPES);
        EDGE.answers("P6 from one to another", some(), call().function(2, 0).same(TYPES, 1L, 2, 0L)
            .same(TYPES, 2L, 0, 0L).look(TYPES, 3L, 0).look(TYPES, 0L, 2), new long[] {TYPES, 1, 1, NONE, 2});
    }

    private static void setBelowZero() {
        for (int set : new int[] {-1, MIN, MIN + 1, -2}) {
            refused("P7 NONE when set is below 0", call().variable(false, set), NONE);
            refused("P7 NONE when set is below 0", call().variable(true, set), NONE);
        }
    }

    private static void setOfNoSuchConstructors() {
        for (int set : new int[] {1 << CONSTRUCTORS, 1 << 30, 1 | 1 << CONSTRUCTORS, 5 | 1 << 30, MAX}) {
            refused("P7 NONE when set has bits of constructors that there are not", call().variable(false, set), NONE);
        }
        EDGE.answers("P7 as soon as there is one", some(), call().constructor(0, 2).variable(true, 1 << CONSTRUCTORS), TYPES);
        EDGE.refused("P7 when it went by clear()", some().clear(2, 0), call().variable(false, 4), NONE);
        EDGE.answers("P7 when it stayed", some(), call().clear(3, 0).variable(false, 4), 0);
    }

    private static void setOfThoseWithArguments() {
        String sentence = "P7 NONE when set has bits of constructors that have arguments";
        for (int set : new int[] {2, 8, 16, 3, 1 | 4 | 16}) {
            refused(sentence, call().variable(false, set), NONE);
        }
        refused(sentence, call().variable(true, 8), NONE);
        EDGE.answers("P7 of those without", some(), call().variable(false, 5).look(TYPES, 0L, 5), 5);
    }

    private static void setWithAWish() {
        String sentence = "P7 NONE when set has, with a wish, bits of constructors that do not admit equality";
        refused(sentence, call().variable(true, 4), NONE);
        refused(sentence, call().variable(true, 5), NONE);
        EDGE.answers("P7 without a wish", some(), call().variable(false, 4), TYPES);
        EDGE.answers("P7 with a wish, of one that admits it", some(), call().variable(true, 1).look(TYPES, 0L, 5)
            .look(TYPES, 0L, 3), new long[] {TYPES, 1, 1});
        EDGE.answers("P7 with a wish and no set", some(), call().variable(true, 0).look(TYPES, 0L, 5)
            .look(TYPES, 0L, 3).look(TYPES, 0L, 4), new long[] {TYPES, 0, 1, 1});
    }

    private static void setsOfTheConstructorsUpTo30() {
        EDGE.answers("P7 the constructor 30", many(), call().variable(true, 1 << 30).built(30).unify(0, 1).look(0, 0L, 1),
            new long[] {0, 1, 1, 30});
        EDGE.answers("P7 all of 0 .. 30", many(), call().variable(true, MAX).look(0, 0L, 5), MAX);
        EDGE.answers("P7 all of 0 .. 30", many(), call().variable(true, MAX).built(0).unify(0, 1).look(0, 0L, 5),
            new long[] {0, 1, 1, NONE});
        for (int c : new int[] {31, 32}) {
            EDGE.refused("P7 the constructor " + c + " is in no set", many().variable(false, MAX).built(c),
                call().unify(0, 1), 0);
        }
        EDGE.refused("P7 a bit for the constructor 31 is below 0", many(), call().variable(false, 1 << 31), NONE);
    }

    private static Calls many() {
        Calls calls = call();
        for (int c = 0; c < 33; c++) {
            calls.constructor(0, 1);
        }
        return calls;
    }

    private static void rigidOnes() {
        for (boolean equality : new boolean[] {false, true}) {
            EDGE.answers("P8 a rigid one of the present level", some().level(100), call().rigid(equality)
                .look(TYPES, 0L, 0).look(TYPES, 0L, 2).look(TYPES, 0L, 3).look(TYPES, 0L, 4).look(TYPES, 0L, 5),
                new long[] {TYPES, 1, 0, equality ? 1 : 0, 100, NONE});
            EDGE.answers("P8 a rigid one of level 0", some().level(0), call().rigid(equality).look(TYPES, 0L, 4), 0);
        }
    }

    private static void levels() {
        for (int now : new int[] {-1, 101, MIN, MAX}) {
            refused("P9 NONE otherwise", call().level(now), NONE);
        }
        EDGE.answers("P9 the one before", some(), call().level(100).level(0).level(0).level(1).count(8).level(100).count(8),
            new long[] {1, 100, 0, 0, 1, 1, 100});
        EDGE.refused("P9 NONE at the greatest", some().level(100), call().level(101), NONE);
        EDGE.refused("P9 NONE at the least", some().level(0), call().level(-1), NONE);
        EDGE.answers("P9 what is made has the present level", some(), call().level(100).variable(false, 0)
            .look(TYPES, 0L, 4).level(0).variable(false, 0).look(TYPES + 1, 0L, 4).look(TYPES, 0L, 4),
            new long[] {1, TYPES, 100, 100, TYPES + 1, 0, 100});
    }
}
