import java.util.ArrayList;
import java.util.List;
import java.util.function.ToLongFunction;

/**
 * A run of calls that is written down, so that it can be made on one new object after another: an object
 * is used for at most 512 calls, and more than that may be asked of what a run leaves. A boolean answer
 * counts 1 or 0.
 */
final class Calls {
    /** What an object may be used for. */
    static final int MOST = 512;

    private final List<String> names = new ArrayList<>();
    private final List<ToLongFunction<TypeLoom>> calls = new ArrayList<>();

    private Calls add(String name, ToLongFunction<TypeLoom> call) {
        names.add(name);
        calls.add(call);
        return this;
    }

    Calls constructor(int arity, int equality) {
        return add("constructor(" + arity + ", " + equality + ")", x -> x.constructor(arity, equality));
    }

    Calls push(int label, int type) {
        return add("push(" + label + ", " + type + ")", x -> x.push(label, type));
    }

    /** Several types as arguments. */
    Calls arguments(int... types) {
        for (int type : types) {
            push(TypeLoom.NONE, type);
        }
        return this;
    }

    /** A type under the labels from one on up to another. */
    Calls fields(int from, int to, int type) {
        for (int label = from; label <= to; label++) {
            push(label, type);
        }
        return this;
    }

    Calls built(int constructor) {
        return add("built(" + constructor + ")", x -> x.built(constructor));
    }

    Calls record(boolean open) {
        return add("record(" + open + ")", x -> x.record(open));
    }

    Calls function(int from, int to) {
        return add("function(" + from + ", " + to + ")", x -> x.function(from, to));
    }

    Calls variable(boolean wish, int set) {
        return add("variable(" + wish + ", " + set + ")", x -> x.variable(wish, set));
    }

    Calls rigid(boolean equality) {
        return add("rigid(" + equality + ")", x -> x.rigid(equality));
    }

    Calls level(int now) {
        return add("level(" + now + ")", x -> x.level(now));
    }

    Calls unify(int t, int u) {
        return add("unify(" + t + ", " + u + ")", x -> x.unify(t, u) ? 1 : 0);
    }

    Calls same(int t, long path, int u, long other) {
        return add("same(" + t + ", " + path + ", " + u + ", " + other + ")", x -> x.same(t, path, u, other) ? 1 : 0);
    }

    Calls look(int t, long path, int what) {
        return add("look(" + t + ", " + path + ", " + what + ")", x -> x.look(t, path, what));
    }

    Calls label(int t, long path, int i) {
        return add("label(" + t + ", " + path + ", " + i + ")", x -> x.label(t, path, i));
    }

    Calls scheme(int t) {
        return add("scheme(" + t + ")", x -> x.scheme(t));
    }

    Calls quantified(int s, int what) {
        return add("quantified(" + s + ", " + what + ")", x -> x.quantified(s, what));
    }

    Calls instance(int s) {
        return add("instance(" + s + ")", x -> x.instance(s));
    }

    Calls alike(int s, int z) {
        return add("alike(" + s + ", " + z + ")", x -> x.alike(s, z) ? 1 : 0);
    }

    Calls clear(int constructors, int schemes) {
        return add("clear(" + constructors + ", " + schemes + ")", x -> x.clear(constructors, schemes) ? 1 : 0);
    }

    Calls count(int what) {
        return add("count(" + what + ")", x -> x.count(what));
    }

    /** Another run behind this one. */
    Calls then(Calls more) {
        names.addAll(more.names);
        calls.addAll(more.calls);
        return this;
    }

    int size() {
        return calls.size();
    }

    String name(int i) {
        return names.get(i);
    }

    long on(TypeLoom x, int i) {
        return calls.get(i).applyAsLong(x);
    }

    /** A new object on which the whole run was made. */
    TypeLoom made() {
        TypeLoom x = new TypeLoom();
        for (int i = 0; i < size(); i++) {
            on(x, i);
        }
        return x;
    }

    @Override
    public String toString() {
        return String.join(", ", names);
    }
}
