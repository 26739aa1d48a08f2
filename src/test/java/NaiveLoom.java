import java.util.ArrayList;
import java.util.HashMap;
import java.util.List;
import java.util.Map;
import java.util.TreeMap;

/**
 * The document once more, written to be plain and slow: types are trees of objects, a variable is bound
 * as soon as it is met, and every promise is a recursion. It shares nothing with TypeLoom; random runs
 * must get the same answers from both. Types that share much would keep it busy without end: then it
 * throws TooLong, and the run is given up.
 */
final class NaiveLoom {
    static final class TooLong extends RuntimeException {
        private static final long serialVersionUID = 1L;
    }

    private static final class Clash extends Exception {
        private static final long serialVersionUID = 1L;
    }

    private static final int VARIABLE = 0;
    private static final int RIGID = 1;
    private static final int BUILT = 2;
    private static final int FUNCTION = 3;
    private static final int RECORD = 4;
    private static final int BUDGET = 200_000;

    private static final class Type {
        final int kind;
        Type stands;
        int level;
        boolean wish;
        int set;
        int constructor;
        final TreeMap<Integer, Type> parts = new TreeMap<>();
        Row row;

        Type(int kind) {
            this.kind = kind;
        }
    }

    private static final class Row {
        int level;
        boolean wish;
        TreeMap<Integer, Type> fields;
        Row rest;
    }

    private static final class Scheme {
        final List<Type> types = new ArrayList<>();
        final List<Integer> quantified = new ArrayList<>();
        final List<Boolean> wishes = new ArrayList<>();
        final List<Integer> kept = new ArrayList<>();
        final List<List<Integer>> parts = new ArrayList<>();
        final List<List<Integer>> labels = new ArrayList<>();
        final List<Row> rows = new ArrayList<>();
        boolean closed = true;
        int told;
        int partCount;
    }

    private final List<int[]> constructors = new ArrayList<>();
    private final List<Type> types = new ArrayList<>();
    private final List<Scheme> schemes = new ArrayList<>();
    private final List<int[]> pushed = new ArrayList<>();
    private final List<Runnable> undo = new ArrayList<>();
    private int present;
    private int rows;
    private int parts;
    private int budget;

    private void spend() {
        budget++;
        if (budget > BUDGET) {
            throw new TooLong();
        }
    }

    private boolean isType(int t) {
        return t >= 0 && t < types.size();
    }

    int constructor(int arity, int equality) {
        if (arity < 0 || arity > 8 || equality < 0 || equality > 2) {
            return -1;
        }
        if (constructors.size() == 2048) {
            return -2;
        }
        constructors.add(new int[] {arity, equality});
        return constructors.size() - 1;
    }

    int push(int label, int type) {
        if (!isType(type) || label < -1 || label > 32767) {
            return -1;
        }
        for (int[] p : pushed) {
            if (p[0] == label && label >= 0) {
                return -1;
            }
        }
        if (pushed.size() == 128) {
            return -2;
        }
        pushed.add(new int[] {label, type});
        return pushed.size();
    }

    private boolean full(int more, int moreParts) {
        return types.size() + more > 24576 || parts + moreParts > 65536;
    }

    private int add(Type t) {
        types.add(t);
        parts += t.parts.size();
        return types.size() - 1;
    }

    int built(int constructor) {
        if (constructor < 0 || constructor >= constructors.size() || pushed.size() != constructors.get(constructor)[0]) {
            return -1;
        }
        for (int[] p : pushed) {
            if (p[0] >= 0) {
                return -1;
            }
        }
        if (full(1, pushed.size())) {
            return -2;
        }
        Type t = new Type(BUILT);
        t.constructor = constructor;
        for (int i = 0; i < pushed.size(); i++) {
            t.parts.put(i, types.get(pushed.get(i)[1]));
        }
        pushed.clear();
        return add(t);
    }

    int record(boolean open) {
        for (int[] p : pushed) {
            if (p[0] < 0) {
                return -1;
            }
        }
        if (full(1, pushed.size()) || open && rows == 512) {
            return -2;
        }
        Type t = new Type(RECORD);
        for (int[] p : pushed) {
            t.parts.put(p[0], types.get(p[1]));
        }
        pushed.clear();
        if (open) {
            t.row = new Row();
            t.row.level = present;
            rows++;
        }
        return add(t);
    }

    int function(int from, int to) {
        if (!isType(from) || !isType(to)) {
            return -1;
        }
        if (full(1, 2)) {
            return -2;
        }
        Type t = new Type(FUNCTION);
        t.parts.put(0, types.get(from));
        t.parts.put(1, types.get(to));
        return add(t);
    }

    int variable(boolean wish, int set) {
        if (set < 0) {
            return -1;
        }
        for (int c = 0; c < 31; c++) {
            if ((set & 1 << c) == 0) {
                continue;
            }
            if (c >= constructors.size() || constructors.get(c)[0] > 0 || wish && constructors.get(c)[1] == 0) {
                return -1;
            }
        }
        if (full(1, 0)) {
            return -2;
        }
        return add(fresh(wish, set));
    }

    private Type fresh(boolean wish, int set) {
        Type t = new Type(VARIABLE);
        t.level = present;
        t.wish = wish;
        t.set = set;
        return t;
    }

    int rigid(boolean equality) {
        if (full(1, 0)) {
            return -2;
        }
        Type t = new Type(RIGID);
        t.level = present;
        t.wish = equality;
        return add(t);
    }

    int level(int now) {
        if (now < 0 || now > 100) {
            return -1;
        }
        int before = present;
        present = now;
        return before;
    }

    private Type now(Type t) {
        Type at = t;
        while (at.stands != null) {
            at = at.stands;
        }
        return at;
    }

    private TreeMap<Integer, Type> view(Type t) {
        spend();
        TreeMap<Integer, Type> all = new TreeMap<>(t.parts);
        for (Row r = t.row; r != null && r.fields != null; r = r.rest) {
            all.putAll(r.fields);
        }
        return all;
    }

    private Row end(Type t) {
        Row r = t.row;
        while (r != null && r.fields != null) {
            r = r.rest;
        }
        return r;
    }

    boolean unify(int t, int u) {
        if (!isType(t) || !isType(u)) {
            return false;
        }
        budget = 0;
        undo.clear();
        try {
            meet(types.get(t), types.get(u));
            return true;
        } catch (Clash c) {
            for (int i = undo.size() - 1; i >= 0; i--) {
                undo.get(i).run();
            }
            return false;
        }
    }

    private void meet(Type one, Type two) throws Clash {
        spend();
        Type a = now(one);
        Type b = now(two);
        if (a == b) {
            return;
        }
        if (a.kind != VARIABLE && b.kind == VARIABLE) {
            Type c = a;
            a = b;
            b = c;
        }
        if (a.kind == VARIABLE) {
            bind(a, b);
            return;
        }
        if (a.kind != b.kind || a.kind == RIGID || a.constructor != b.constructor) {
            throw new Clash();
        }
        if (a.kind == RECORD) {
            meetRecords(a, b);
            return;
        }
        for (int i : a.parts.keySet()) {
            meet(a.parts.get(i), b.parts.get(i));
        }
    }

    private void bind(Type a, Type b) throws Clash {
        if (b.kind == VARIABLE) {
            ask(b, a.level, a.wish, a.set);
        } else {
            if (a.set != 0 && (b.kind != BUILT || b.constructor > 30 || (a.set & 1 << b.constructor) == 0)) {
                throw new Clash();
            }
            if (occurs(a, null, b)) {
                throw new Clash();
            }
            ask(b, a.level, a.wish, 0);
        }
        a.stands = b;
        undo.add(() -> a.stands = null);
    }

    private boolean occurs(Type variable, Row row, Type in) {
        spend();
        Type t = now(in);
        if (t == variable || row != null && end(t) == row) {
            return true;
        }
        for (Type part : view(t).values()) {
            if (occurs(variable, row, part)) {
                return true;
            }
        }
        return false;
    }

    private void ask(Type in, int level, boolean wish, int set) throws Clash {
        spend();
        Type t = now(in);
        if (t.kind == RIGID) {
            if (t.level > level || wish && !t.wish) {
                throw new Clash();
            }
        } else if (t.kind == VARIABLE) {
            askVariable(t, level, wish, set);
        } else {
            int equality = t.kind == BUILT ? constructors.get(t.constructor)[1] : t.kind == FUNCTION ? 0 : 1;
            if (wish && equality == 0) {
                throw new Clash();
            }
            for (Type part : view(t).values()) {
                ask(part, level, wish && equality == 1, 0);
            }
            if (end(t) != null) {
                askRow(end(t), level, wish);
            }
        }
    }

    private void askVariable(Type t, int level, boolean wish, int set) throws Clash {
        int oldLevel = t.level;
        boolean oldWish = t.wish;
        int oldSet = t.set;
        undo.add(() -> {
            t.level = oldLevel;
            t.wish = oldWish;
            t.set = oldSet;
        });
        t.level = Math.min(level, t.level);
        t.wish |= wish;
        boolean bound = t.set != 0 || set != 0;
        t.set = t.set == 0 ? set : set == 0 ? t.set : t.set & set;
        for (int c = 0; c < 31; c++) {
            if (t.wish && (t.set & 1 << c) != 0 && constructors.get(c)[1] == 0) {
                t.set &= ~(1 << c);
            }
        }
        if (bound && t.set == 0) {
            throw new Clash();
        }
    }

    private void askRow(Row r, int level, boolean wish) {
        int oldLevel = r.level;
        boolean oldWish = r.wish;
        undo.add(() -> {
            r.level = oldLevel;
            r.wish = oldWish;
        });
        r.level = Math.min(level, r.level);
        r.wish |= wish;
    }

    private void meetRecords(Type a, Type b) throws Clash {
        // Fields first, though they may give the rows more fields; TypeLoom does it the other way round.
        List<Integer> met = new ArrayList<>();
        boolean more = true;
        while (more) {
            more = false;
            for (int label : view(a).keySet()) {
                if (view(b).containsKey(label) && !met.contains(label)) {
                    met.add(label);
                    meet(view(a).get(label), view(b).get(label));
                    more = true;
                    break;
                }
            }
        }
        TreeMap<Integer, Type> onlyA = view(a);
        onlyA.keySet().removeAll(view(b).keySet());
        TreeMap<Integer, Type> onlyB = view(b);
        onlyB.keySet().removeAll(view(a).keySet());
        Row ra = end(a);
        Row rb = end(b);
        if (ra == rb) {
            if (!onlyA.isEmpty() || !onlyB.isEmpty()) {
                throw new Clash();
            }
            return;
        }
        if (ra == null && !onlyB.isEmpty() || rb == null && !onlyA.isEmpty() || view(a).size() + onlyB.size() > 128) {
            throw new Clash();
        }
        Row rest = null;
        if (ra != null && rb != null) {
            rest = new Row();
            rest.level = 100;
        }
        if (ra != null) {
            bindRow(ra, onlyB, rest);
        }
        if (rb != null) {
            bindRow(rb, onlyA, rest);
        }
    }

    private void bindRow(Row r, TreeMap<Integer, Type> fields, Row rest) throws Clash {
        for (Type t : fields.values()) {
            if (occurs(null, r, t)) {
                throw new Clash();
            }
        }
        r.fields = fields;
        r.rest = rest;
        undo.add(() -> {
            r.fields = null;
            r.rest = null;
        });
        for (Type t : fields.values()) {
            ask(t, r.level, r.wish, 0);
        }
        if (rest != null) {
            askRow(rest, r.level, r.wish);
        }
    }

    private Type at(int t, long path) {
        if (!isType(t)) {
            return null;
        }
        Type at = now(types.get(t));
        for (int i = 0; i < 8; i++) {
            int step = (int) (path >>> 8 * i) & 255;
            if (step == 0) {
                return at;
            }
            List<Type> inside = new ArrayList<>(view(at).values());
            if (step > inside.size()) {
                return null;
            }
            at = now(inside.get(step - 1));
        }
        return at;
    }

    boolean same(int t, long path, int u, long other) {
        budget = 0;
        Type a = at(t, path);
        Type b = at(u, other);
        return a != null && b != null && equal(a, b);
    }

    private boolean equal(Type one, Type two) {
        spend();
        Type a = now(one);
        Type b = now(two);
        if (a == b) {
            return true;
        }
        if (a.kind != b.kind || a.kind == VARIABLE || a.kind == RIGID || a.constructor != b.constructor) {
            return false;
        }
        TreeMap<Integer, Type> va = view(a);
        TreeMap<Integer, Type> vb = view(b);
        if (!va.keySet().equals(vb.keySet()) || end(a) != end(b)) {
            return false;
        }
        for (int label : va.keySet()) {
            if (!equal(va.get(label), vb.get(label))) {
                return false;
            }
        }
        return true;
    }

    private boolean admits(Type in) {
        spend();
        Type t = now(in);
        if (t.kind == VARIABLE || t.kind == RIGID) {
            return t.wish;
        }
        if (t.kind == FUNCTION || t.kind == BUILT && constructors.get(t.constructor)[1] == 0) {
            return false;
        }
        if (t.kind == BUILT && constructors.get(t.constructor)[1] == 2) {
            return true;
        }
        for (Type part : view(t).values()) {
            if (!admits(part)) {
                return false;
            }
        }
        return end(t) == null || end(t).wish;
    }

    int look(int t, long path, int what) {
        budget = 0;
        Type at = at(t, path);
        if (at == null) {
            return -1;
        }
        Row r = end(at);
        switch (what) {
            case 0:
                return at.kind;
            case 1:
                return at.kind == BUILT ? at.constructor : -1;
            case 2:
                return view(at).size();
            case 3:
                return admits(at) ? 1 : 0;
            case 4:
                return at.kind <= RIGID ? at.level : r != null ? r.level : -1;
            case 5:
                return at.kind == VARIABLE ? at.set : -1;
            case 6:
                return at.kind != RECORD ? -1 : r != null ? 1 : 0;
            default:
                return -1;
        }
    }

    int label(int t, long path, int i) {
        budget = 0;
        Type at = at(t, path);
        if (at == null || at.kind != RECORD || i < 0 || i >= view(at).size()) {
            return -1;
        }
        return new ArrayList<>(view(at).keySet()).get(i);
    }

    private int place(List<Type> list, Type t) {
        for (int i = 0; i < list.size(); i++) {
            if (equal(list.get(i), t)) {
                return i;
            }
        }
        return -1;
    }

    private void collect(Type in, List<Type> list) {
        Type t = now(in);
        if (place(list, t) >= 0) {
            return;
        }
        for (Type part : view(t).values()) {
            collect(part, list);
        }
        list.add(t);
    }

    int scheme(int t) {
        budget = 0;
        if (!isType(t)) {
            return -1;
        }
        Scheme s = new Scheme();
        collect(types.get(t), s.types);
        for (Type x : s.types) {
            if (x.kind == VARIABLE && x.set != 0 && x.level > present || end(x) != null && end(x).level > present) {
                return -1;
            }
            s.partCount += view(x).size();
        }
        if (schemes.size() == 2048 || count(5) + s.types.size() > 16384 || count(6) + s.partCount > 32768) {
            return -2;
        }
        s.told = t;
        for (int i = 0; i < s.types.size(); i++) {
            Type x = s.types.get(i);
            boolean leaf = x.kind <= RIGID;
            boolean quantified = leaf && x.level > present;
            if (quantified) {
                s.quantified.add(i);
            } else if (leaf) {
                s.kept.add(i);
            }
            s.wishes.add(leaf && x.wish);
            s.rows.add(end(x));
            s.closed &= end(x) == null && (!leaf || quantified);
            List<Integer> places = new ArrayList<>();
            for (Type part : view(x).values()) {
                places.add(place(s.types, now(part)));
            }
            s.parts.add(places);
            s.labels.add(new ArrayList<>(view(x).keySet()));
        }
        schemes.add(s);
        return schemes.size() - 1;
    }

    private Scheme schemeAt(int s) {
        return s >= 0 && s < schemes.size() ? schemes.get(s) : null;
    }

    int quantified(int s, int what) {
        Scheme x = schemeAt(s);
        if (x == null || what < 0 || what > 2) {
            return -1;
        }
        int wishers = 0;
        for (int i : x.quantified) {
            wishers += x.wishes.get(i) ? 1 : 0;
        }
        return what == 0 ? x.quantified.size() : what == 1 ? (x.closed ? 1 : 0) : wishers;
    }

    int instance(int s) {
        Scheme x = schemeAt(s);
        if (x == null) {
            return -1;
        }
        if (full(x.types.size() - x.kept.size(), x.partCount)) {
            return -2;
        }
        int number = x.told;
        Map<Integer, Type> made = new HashMap<>();
        for (int i = 0; i < x.types.size(); i++) {
            Type old = x.types.get(i);
            if (x.kept.contains(i)) {
                made.put(i, old);
                continue;
            }
            Type t = x.quantified.contains(i) ? fresh(x.wishes.get(i), 0) : new Type(old.kind);
            t.constructor = old.constructor;
            t.row = x.rows.get(i);
            for (int p = 0; p < x.parts.get(i).size(); p++) {
                t.parts.put(x.labels.get(i).get(p), made.get(x.parts.get(i).get(p)));
            }
            made.put(i, t);
            number = add(t);
        }
        return number;
    }

    boolean alike(int s, int z) {
        budget = 0;
        Scheme x = schemeAt(s);
        Scheme y = schemeAt(z);
        if (x == null || y == null || !x.closed || !y.closed || x.quantified.size() != y.quantified.size()) {
            return false;
        }
        return alikeAt(x, x.types.size() - 1, y, y.types.size() - 1);
    }

    private boolean alikeAt(Scheme x, int i, Scheme y, int j) {
        spend();
        int mine = x.quantified.indexOf(i);
        int yours = y.quantified.indexOf(j);
        if (mine >= 0 || yours >= 0) {
            return mine == yours && x.wishes.get(i).equals(y.wishes.get(j));
        }
        Type a = x.types.get(i);
        Type b = y.types.get(j);
        if (a.kind != b.kind || a.constructor != b.constructor || !x.labels.get(i).equals(y.labels.get(j))) {
            return false;
        }
        for (int p = 0; p < x.parts.get(i).size(); p++) {
            if (!alikeAt(x, x.parts.get(i).get(p), y, y.parts.get(j).get(p))) {
                return false;
            }
        }
        return true;
    }

    boolean clear(int keep, int keepSchemes) {
        if (keep < 0 || keep > constructors.size() || keepSchemes < 0 || keepSchemes > schemes.size()) {
            return false;
        }
        for (Scheme s : schemes.subList(0, keepSchemes)) {
            for (Type t : s.types) {
                if (t.kind == BUILT && t.constructor >= keep) {
                    return false;
                }
            }
            if (!s.closed) {
                return false;
            }
        }
        constructors.subList(keep, constructors.size()).clear();
        schemes.subList(keepSchemes, schemes.size()).clear();
        types.clear();
        pushed.clear();
        present = 0;
        rows = 0;
        parts = 0;
        return true;
    }

    int count(int what) {
        int schemeTypes = 0;
        int schemeParts = 0;
        for (Scheme s : schemes) {
            schemeTypes += s.types.size();
            schemeParts += s.partCount;
        }
        int[] all = {constructors.size(), types.size(), pushed.size(), schemes.size(), parts, schemeTypes, schemeParts,
            rows, present};
        return what >= 0 && what < all.length ? all[what] : -1;
    }
}
