import java.util.ArrayList;
import java.util.List;
import java.util.Random;

/** Random runs of all calls, from fixed seeds: TypeLoom and NaiveLoom must answer the same. */
public final class ModelTest {
    /** An object is used for at most 512 calls, and the last step may be one of many. */
    private static final int CALLS = 480;

    private final TypeLoom loom = new TypeLoom();
    private final NaiveLoom model = new NaiveLoom();
    private final Random random;
    private final List<String> told = new ArrayList<>();
    private final int labels;
    private final int levels;
    private boolean wrong;

    private ModelTest(long seed) {
        random = new Random(seed);
        labels = 2 + random.nextInt(6);
        levels = 1 + random.nextInt(4);
    }

    public static void main(String[] args) {
        int runs = args.length > 0 ? Integer.parseInt(args[0]) : 4000;
        int first = args.length > 1 ? Integer.parseInt(args[1]) : 0;
        int givenUp = 0;
        long calls = 0;
        long unified = 0;
        long alike = 0;
        for (int seed = first; seed < first + runs; seed++) {
            ModelTest run = new ModelTest(seed);
            try {
                run.go();
            } catch (NaiveLoom.TooLong e) {
                givenUp++;
            }
            if (run.wrong) {
                run.tell(seed);
                System.exit(1);
            }
            calls += run.told.size();
            unified += run.answeredTrue("unify");
            alike += run.answeredTrue("alike");
        }
        System.out.println("ModelTest: " + runs + " runs, " + calls + " answers (" + unified + " unified, " + alike
            + " alike; " + givenUp + " runs given up), 0 not as due");
    }

    private void tell(int seed) {
        System.out.println("ModelTest: run of seed " + seed);
        for (String row : told) {
            System.out.println("  " + row);
        }
    }

    private long answeredTrue(String call) {
        long count = 0;
        for (String row : told) {
            count += row.startsWith(call) && row.endsWith(" 1") ? 1 : 0;
        }
        return count;
    }

    private void due(String call, long got, long want) {
        told.add(call + " answered " + got + (got == want ? "" : ", due is " + want));
        wrong |= got != want;
    }

    private void due(String call, boolean got, boolean want) {
        due(call, got ? 1 : 0, want ? 1 : 0);
    }

    private void go() {
        boolean forSchemes = chance(25);
        constructors();
        while (told.size() < CALLS && !wrong) {
            if (forSchemes) {
                schemeStep();
            } else {
                step();
            }
        }
    }

    private boolean chance(int percent) {
        return random.nextInt(100) < percent;
    }

    private void constructors() {
        int[][] some = {{0, 1}, {0, 0}, {0, 2}, {1, 1}, {1, 2}, {1, 0}, {2, 1}, {2, 2}, {3, 1}, {0, 1}};
        int n = 3 + random.nextInt(some.length - 2);
        for (int i = 0; i < n; i++) {
            constructor(some[i][0], some[i][1]);
        }
    }

    /** A type that there is, mostly a late one; now and then one that there is not. */
    private int type() {
        int n = model.count(1);
        if (n == 0 || chance(1)) {
            return chance(50) ? n : -1 - random.nextInt(3);
        }
        return chance(60) ? Math.max(0, n - 1 - random.nextInt(12)) : random.nextInt(n);
    }

    private int someScheme() {
        return random.nextInt(Math.max(1, model.count(3))) + (chance(3) ? 1 : 0) - (chance(1) ? 1 : 0);
    }

    private long path() {
        long path = 0;
        int length = chance(50) ? 0 : random.nextInt(5);
        for (int i = 0; i < length; i++) {
            path |= (long) (1 + random.nextInt(3)) << 8 * i;
        }
        return chance(1) ? random.nextLong() : path;
    }

    /** Small types of a few variables: many closed schemes of them are alike, or nearly so. */
    private void schemeStep() {
        if (model.count(1) == 0) {
            level(1);
            variable(false, 0);
            variable(false, 0);
            variable(true, 0);
            rigid(false);
            rigid(true);
        }
        switch (random.nextInt(6)) {
            case 0:
                function(random.nextInt(5), random.nextInt(5));
                break;
            case 1:
                function(random.nextInt(5), type());
                break;
            case 2:
                build();
                break;
            case 3:
                push(random.nextInt(2), random.nextInt(5));
                push(2 + random.nextInt(2), random.nextInt(5));
                record(chance(10));
                break;
            case 4:
                instance(someScheme());
                break;
            default:
                if (chance(5)) {
                    clear(model.count(0), random.nextInt(model.count(3) + 1));
                }
                break;
        }
        level(chance(90) ? 0 : 1);
        scheme(type());
        level(1);
        for (int i = 0; i < 4; i++) {
            alike(someScheme(), someScheme());
        }
        quantified(someScheme(), random.nextInt(3));
    }

    private void step() {
        int kind = random.nextInt(100);
        if (kind < 9) {
            variable(chance(25), chance(75) ? 0 : chance(5) ? random.nextInt() : random.nextInt(8));
        } else if (kind < 11) {
            rigid(chance(50));
        } else if (kind < 18) {
            build();
        } else if (kind < 21) {
            function(type(), type());
        } else if (kind < 31) {
            for (int i = random.nextInt(4); i > 0; i--) {
                push(chance(2) ? random.nextInt(70000) - 20000 : random.nextInt(labels), type());
            }
            record(chance(75));
        } else if (kind < 36) {
            level(chance(2) ? random.nextInt(300) - 100 : random.nextInt(levels + 1));
        } else if (kind < 55) {
            unify();
        } else if (kind < 66) {
            same(type(), path(), type(), path());
        } else if (kind < 82) {
            look(type(), path(), random.nextInt(7) + (chance(3) ? random.nextInt(9) - 4 : 0));
        } else if (kind < 86) {
            label(type(), path(), random.nextInt(labels + 2) - 1);
        } else {
            rareStep(kind);
        }
    }

    private void rareStep(int kind) {
        if (kind < 90) {
            scheme(type());
        } else if (kind < 92) {
            quantified(someScheme(), random.nextInt(4));
        } else if (kind < 95) {
            instance(someScheme());
        } else if (kind < 97) {
            alike(someScheme(), someScheme());
        } else if (kind < 99) {
            int what = random.nextInt(11) - 1;
            due("count(" + what + ")", loom.count(what), model.count(what));
        } else if (chance(30)) {
            int keep = model.count(0) - (chance(80) ? 0 : random.nextInt(3) - 1);
            clear(keep, chance(30) ? model.count(3) : random.nextInt(model.count(3) + 2) - (chance(5) ? 1 : 0));
        } else {
            constructor(random.nextInt(10), random.nextInt(4) - (chance(10) ? 1 : 0));
        }
    }

    private void build() {
        int c = random.nextInt(Math.max(1, model.count(0)));
        int[] arities = {0, 0, 0, 1, 1, 1, 2, 2, 3, 0};
        int n = chance(3) ? random.nextInt(4) : c < arities.length ? arities[c] : 0;
        for (int i = 0; i < n; i++) {
            push(-1, type());
        }
        due("built(" + c + ")", loom.built(c), model.built(c));
        if (model.count(2) > 0 && chance(20)) {
            clear(0, 0);
            constructors();
        }
    }

    private void unify() {
        int t = type();
        int u = type();
        // Two of one kind can be unified more often than two of any.
        for (int i = 0; i < 6 && chance(80) && model.look(t, 0, 0) != model.look(u, 0, 0); i++) {
            u = type();
        }
        due("unify(" + t + ", " + u + ")", loom.unify(t, u), model.unify(t, u));
    }

    private void constructor(int arity, int equality) {
        due("constructor(" + arity + ", " + equality + ")", loom.constructor(arity, equality),
            model.constructor(arity, equality));
    }

    private void push(int label, int t) {
        due("push(" + label + ", " + t + ")", loom.push(label, t), model.push(label, t));
    }

    private void record(boolean open) {
        due("record(" + open + ")", loom.record(open), model.record(open));
    }

    private void function(int from, int to) {
        due("function(" + from + ", " + to + ")", loom.function(from, to), model.function(from, to));
    }

    private void variable(boolean wish, int set) {
        due("variable(" + wish + ", " + set + ")", loom.variable(wish, set), model.variable(wish, set));
    }

    private void rigid(boolean equality) {
        due("rigid(" + equality + ")", loom.rigid(equality), model.rigid(equality));
    }

    private void level(int now) {
        due("level(" + now + ")", loom.level(now), model.level(now));
    }

    private void same(int t, long path, int u, long other) {
        due("same(" + t + ", " + path + ", " + u + ", " + other + ")", loom.same(t, path, u, other),
            model.same(t, path, u, other));
    }

    private void look(int t, long path, int what) {
        due("look(" + t + ", " + path + ", " + what + ")", loom.look(t, path, what), model.look(t, path, what));
    }

    private void label(int t, long path, int i) {
        due("label(" + t + ", " + path + ", " + i + ")", loom.label(t, path, i), model.label(t, path, i));
    }

    private void scheme(int t) {
        due("scheme(" + t + ")", loom.scheme(t), model.scheme(t));
    }

    private void quantified(int s, int what) {
        due("quantified(" + s + ", " + what + ")", loom.quantified(s, what), model.quantified(s, what));
    }

    private void instance(int s) {
        due("instance(" + s + ")", loom.instance(s), model.instance(s));
    }

    private void alike(int s, int z) {
        due("alike(" + s + ", " + z + ")", loom.alike(s, z), model.alike(s, z));
    }

    private void clear(int constructors, int schemes) {
        due("clear(" + constructors + ", " + schemes + ")", loom.clear(constructors, schemes),
            model.clear(constructors, schemes));
    }
}
