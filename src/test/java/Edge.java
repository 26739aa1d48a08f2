import java.util.ArrayList;
import java.util.List;

/**
 * The edges of the document's sentences: what a call at an edge answers after a run, and, when it is
 * refused or full, that it leaves all that can be asked as it was. For that, the run is made on one new
 * object with the call and on another without it, as often as there are questions, and both must give
 * the same answers to all of these: about every type and scheme, and to every call that goes on from there.
 */
final class Edge {
    private static final int FEW = 24;
    /**
     * Of a run that leaves very many types fewer are asked, and calls that go on from there are made one
     * after another, since it takes long to make it once more for each.
     */
    private static final int VERY_MANY = 1000;
    private static final int VERY_FEW = 6;
    private static final long[] PATHS = {0L, 1L, 2L, 3L, 0x101L, 0x201L, 0x102L, 0x202L};

    private final Due due;

    Edge(String test) {
        due = new Due(test);
    }

    void end() {
        due.end();
    }

    /** A call after a run has an answer. */
    void answers(String sentence, Calls before, Calls call, long want) {
        TypeLoom x = before.made();
        for (int i = 0; i < call.size() - 1; i++) {
            call.on(x, i);
        }
        due.is(sentence + ": " + call, call.on(x, call.size() - 1), want);
        if (before.size() + call.size() > Calls.MOST) {
            due.is(sentence + ": calls at most", before.size() + call.size(), Calls.MOST);
        }
    }

    /** Calls after a run have answers, one after another on one object. */
    void answers(String sentence, Calls before, Calls calls, long[] want) {
        TypeLoom x = before.made();
        due.is(sentence + ": answers", calls.size(), want.length);
        due.is(sentence + ": no more calls than may be", before.size() + calls.size() <= Calls.MOST, true);
        for (int i = 0; i < Math.min(want.length, calls.size()); i++) {
            due.is(sentence + ": " + calls.name(i), calls.on(x, i), want[i]);
        }
    }

    /** A call after a run is refused, or full, by its answer; and nothing is other than without it. */
    void refused(String sentence, Calls before, Calls call, long want) {
        answers(sentence, before, call, want);
        unchanged(sentence, before, call, before.made());
    }

    private void unchanged(String sentence, Calls before, Calls call, TypeLoom state) {
        int constructors = state.count(0);
        boolean large = state.count(1) + state.count(5) >= VERY_MANY;
        int few = large ? VERY_FEW : FEW;
        int[] types = some(state.count(1), few);
        int[] schemes = some(state.count(3), few);
        Calls questions = questions(types, schemes);
        compare(sentence, before, call, questions);
        List<Calls> ways = new ArrayList<>();
        waysToMake(ways, state.count(1), constructors);
        waysWithTypes(ways, types);
        waysWithSchemes(ways, schemes, state.count(1), constructors);
        for (Calls way : large ? joined(ways) : ways) {
            compare(sentence, before, call, way);
        }
    }

    private static List<Calls> joined(List<Calls> ways) {
        Calls all = new Calls();
        for (Calls way : ways) {
            all.then(way);
        }
        return List.of(all);
    }

    /** All numbers below one, or the first and the last of them. */
    private static int[] some(int count, int few) {
        int[] all = new int[Math.min(count, few)];
        for (int i = 0; i < all.length; i++) {
            all[i] = i < few / 2 ? i : count - all.length + i;
        }
        return all;
    }

    private static Calls questions(int[] types, int[] schemes) {
        Calls q = new Calls();
        for (int what = 0; what <= 8; what++) {
            q.count(what);
        }
        for (int t : types) {
            for (long path : PATHS) {
                for (int what = 0; what <= 6; what++) {
                    q.look(t, path, what);
                }
                q.label(t, path, 0).label(t, path, 1);
            }
            for (int u : types) {
                q.same(t, 0L, u, 0L).same(t, 1L, u, 0L).same(t, 2L, u, 0L);
            }
        }
        for (int s : schemes) {
            q.quantified(s, 0).quantified(s, 1).quantified(s, 2);
            for (int z : schemes) {
                q.alike(s, z);
            }
        }
        return q;
    }

    /** What is pushed, the present level and the next numbers show in what is made next. */
    private static void waysToMake(List<Calls> ways, int next, int constructors) {
        Calls ask = new Calls();
        for (long path = 0; path <= 8; path++) {
            ask.look(next, path, 0).look(next, path, 1).look(next, path, 4).label(next, 0L, (int) path);
            for (int t = 0; t < Math.min(next, 6); t++) {
                ask.same(next, path, t, 0L);
            }
        }
        for (int what = 0; what <= 8; what++) {
            ask.count(what);
        }
        ways.add(new Calls().record(false).then(ask));
        ways.add(new Calls().record(true).then(ask));
        for (int c = 0; c <= Math.min(constructors, 10); c++) {
            ways.add(new Calls().built(c).then(ask));
        }
        ways.add(new Calls().function(0, 0).then(ask));
        ways.add(new Calls().variable(true, 0).then(ask));
        ways.add(new Calls().variable(false, 1).variable(false, 2).variable(true, 4).then(ask));
        ways.add(new Calls().rigid(true).then(ask));
        ways.add(new Calls().constructor(0, 1).variable(true, constructors < 31 ? 1 << constructors : 0).then(ask));
        ways.add(new Calls().push(-1, 0).push(0, 0).push(1, 0).push(32767, 0).then(ask));
        ways.add(new Calls().level(7).record(true).then(ask));
    }

    private static void waysWithTypes(List<Calls> ways, int[] types) {
        for (int t : types) {
            ways.add(new Calls().scheme(t).count(3).count(5).count(6).quantified(0, 0));
            for (int u : types) {
                if (u > t && types.length < FEW) {
                    Calls way = new Calls().unify(t, u);
                    for (int v : types) {
                        way.look(v, 0L, 0).look(v, 0L, 2).look(v, 0L, 3).look(v, 0L, 4).look(v, 0L, 5);
                    }
                    ways.add(way);
                }
            }
        }
    }

    private static void waysWithSchemes(List<Calls> ways, int[] schemes, int next, int constructors) {
        for (int s : schemes) {
            Calls way = new Calls().instance(s).count(1).count(4).count(7);
            for (int t = next; t < next + 5; t++) {
                way.look(t, 0L, 0).look(t, 0L, 1).look(t, 0L, 2).look(t, 0L, 3).look(t, 0L, 4);
            }
            ways.add(way);
            ways.add(new Calls().clear(constructors, s + 1).instance(s).count(1).count(3).count(5).count(6));
        }
        ways.add(new Calls().clear(constructors, 0).count(0).count(1).count(2).count(3).count(8).constructor(0, 0));
        ways.add(new Calls().clear(0, 0).count(0).constructor(0, 0));
    }

    /** The same questions with the call and without it; on a new object wherever one has been used enough. */
    private void compare(String sentence, Calls before, Calls call, Calls questions) {
        int room = Calls.MOST - before.size() - call.size();
        due.is(sentence + ": there is room to ask", room > 0, true);
        TypeLoom without = null;
        TypeLoom with = null;
        for (int i = 0; i < questions.size() && room > 0; i++) {
            if (i % room == 0) {
                without = before.made();
                with = before.made();
                for (int k = 0; k < call.size(); k++) {
                    call.on(with, k);
                }
            }
            due.is(sentence + ": " + questions.name(i) + " after " + call, questions.on(with, i), questions.on(without, i));
        }
    }
}
