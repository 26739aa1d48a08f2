import java.util.ArrayList;
import java.util.List;
import java.util.Random;

/** Random runs of all calls, from fixed seeds: TypeLoom and NaiveLoom must answer the same. */
public final class ModelTest {
    /** An object is used for at most 512 calls. */
    private static final int CALLS = 512;

    private final TypeLoom loom = new TypeLoom();
    private final NaiveLoom model = new NaiveLoom();
    private final Random random;
    private final List<String> told = new ArrayList<>();
    private final int labels;
    private final int levels;
    private boolean wrong;

    private ModelTest(long seed) {
        random = new Random(seed);
        labels = 2 + random.nextInt(6);
        levels = 1 + random.nextInt(4);
    }

    public static void main(String[] args) {
        int runs = args.length > 0 ? Integer.parseInt(args[0]) : 4000;
        int first = args.length > 1 ? Integer.parseInt(args[1]) : 0;
        int given = 0;
        long calls = 0;
        long unified = 0;
        for (int seed = first; seed < first + runs; seed++) {
            ModelTest run = new ModelTest(seed);
            try {
                run.go();
            } catch (NaiveLoom.TooLong e) {
                given++;
            }
            if (run.wrong) {
                System.out.println("ModelTest: run of seed " + seed);
                for (String row : run.told) {
                    System.out.println("  " + row);
                }
                System.exit(1);
            }
            calls += run.told.size();
            for (String row : run.told) {
                unified += row.startsWith("unify") && row.endsWith(" 1") ? 1 : 0;
            }
        }
        System.out.println("ModelTest: " + runs + " runs, " + calls + " answers (" + unified + " unified, " + given
            + " runs given up), 0 not as due");
    }

    private void due(String call, long got, long want) {
        told.add(call + " answered " + got + (got == want ? "" : ", due is " + want));
        wrong |= got != want;
    }

    private void due(String call, boolean got, boolean want) {
        due(call, got ? 1 : 0, want ? 1 : 0);
    }

    private void go() {
        constructors();
        while (told.size() < CALLS && !wrong) {
            step();
        }
    }

    private boolean chance(int percent) {
        return random.nextInt(100) < percent;
    }

    private void constructors() {
        int[][] some = {{0, 1}, {0, 0}, {0, 2}, {1, 1}, {1, 2}, {1, 0}, {2, 1}, {2, 2}, {3, 1}, {0, 1}};
        int n = 3 + random.nextInt(some.length - 2);
        for (int i = 0; i < n; i++) {
            constructor(some[i][0], some[i][1]);
        }
    }

    private void constructor(int arity, int equality) {
        due("constructor(" + arity + ", " + equality + ")", loom.constructor(arity, equality),
            model.constructor(arity, equality));
    }

    /** A type that there is, mostly a late one; now and then one that there is not. */
    private int type() {
        int n = model.count(1);
        if (n == 0 || chance(1)) {
            return chance(50) ? n : -1 - random.nextInt(3);
        }
        return chance(60) ? Math.max(0, n - 1 - random.nextInt(12)) : random.nextInt(n);
    }

    private long path() {
        long path = 0;
        int length = chance(50) ? 0 : random.nextInt(5);
        for (int i = 0; i < length; i++) {
            path |= (long) (1 + random.nextInt(3)) << 8 * i;
        }
        return chance(1) ? random.nextLong() : path;
    }

    private void step() {
        int kind = random.nextInt(100);
        if (kind < 9) {
            variable();
        } else if (kind < 11) {
            boolean equality = chance(50);
            due("rigid(" + equality + ")", loom.rigid(equality), model.rigid(equality));
        } else if (kind < 18) {
            build();
        } else if (kind < 21) {
            int from = type();
            int to = type();
            due("function(" + from + ", " + to + ")", loom.function(from, to), model.function(from, to));
        } else if (kind < 31) {
            record();
        } else if (kind < 36) {
            int now = chance(2) ? random.nextInt(300) - 100 : random.nextInt(levels + 1);
            due("level(" + now + ")", loom.level(now), model.level(now));
        } else if (kind < 55) {
            unify();
        } else if (kind < 66) {
            same();
        } else if (kind < 82) {
            look();
        } else if (kind < 86) {
            int t = type();
            long path = path();
            int i = random.nextInt(labels + 2) - 1;
            due("label(" + t + ", " + path + ", " + i + ")", loom.label(t, path, i), model.label(t, path, i));
        } else {
            others(kind);
        }
    }

    private void others(int kind) {
        int s = random.nextInt(Math.max(1, model.count(3)) + (chance(5) ? 1 : 0));
        if (kind < 90) {
            int t = type();
            due("scheme(" + t + ")", loom.scheme(t), model.scheme(t));
        } else if (kind < 92) {
            int what = random.nextInt(4);
            due("quantified(" + s + ", " + what + ")", loom.quantified(s, what), model.quantified(s, what));
        } else if (kind < 95) {
            due("instance(" + s + ")", loom.instance(s), model.instance(s));
        } else if (kind < 97) {
            int z = random.nextInt(Math.max(1, model.count(3)));
            due("alike(" + s + ", " + z + ")", loom.alike(s, z), model.alike(s, z));
        } else if (kind < 99) {
            int what = random.nextInt(11) - 1;
            due("count(" + what + ")", loom.count(what), model.count(what));
        } else if (chance(30)) {
            int keep = model.count(0) - (chance(80) ? 0 : random.nextInt(3) - 1);
            int schemes = chance(30) ? model.count(3) : random.nextInt(model.count(3) + 2) - (chance(5) ? 1 : 0);
            due("clear(" + keep + ", " + schemes + ")", loom.clear(keep, schemes), model.clear(keep, schemes));
        } else {
            constructor(random.nextInt(10), random.nextInt(4) - (chance(10) ? 1 : 0));
        }
    }

    private void variable() {
        boolean wish = chance(25);
        int set = chance(75) ? 0 : chance(5) ? random.nextInt() : random.nextInt(8);
        due("variable(" + wish + ", " + set + ")", loom.variable(wish, set), model.variable(wish, set));
    }

    private void push(int label, int t) {
        due("push(" + label + ", " + t + ")", loom.push(label, t), model.push(label, t));
    }

    private void build() {
        int c = random.nextInt(Math.max(1, model.count(0)));
        int[] arities = {0, 0, 0, 1, 1, 1, 2, 2, 3, 0};
        int n = chance(3) ? random.nextInt(4) : c < arities.length ? arities[c] : 0;
        for (int i = 0; i < n; i++) {
            push(-1, type());
        }
        due("built(" + c + ")", loom.built(c), model.built(c));
        if (model.count(2) > 0 && chance(20)) {
            due("clear(0, 0)", loom.clear(0, 0), model.clear(0, 0));
            constructors();
        }
    }

    private void record() {
        int n = random.nextInt(4);
        for (int i = 0; i < n; i++) {
            push(chance(2) ? random.nextInt(70000) - 20000 : random.nextInt(labels), type());
        }
        boolean open = chance(75);
        due("record(" + open + ")", loom.record(open), model.record(open));
    }

    private void unify() {
        int t = type();
        int u = type();
        // Two of one kind can be unified more often than two of any.
        for (int i = 0; i < 6 && chance(80) && model.look(t, 0, 0) != model.look(u, 0, 0); i++) {
            u = type();
        }
        due("unify(" + t + ", " + u + ")", loom.unify(t, u), model.unify(t, u));
    }

    private void same() {
        int t = type();
        int u = type();
        long path = path();
        long other = path();
        due("same(" + t + ", " + path + ", " + u + ", " + other + ")", loom.same(t, path, u, other),
            model.same(t, path, u, other));
    }

    private void look() {
        int t = type();
        long path = path();
        int what = random.nextInt(7) + (chance(3) ? random.nextInt(9) - 4 : 0);
        due("look(" + t + ", " + path + ", " + what + ")", loom.look(t, path, what), model.look(t, path, what));
    }
}
