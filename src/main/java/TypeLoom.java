import java.util.Arrays;

/**
 * Types of a programming language that are made equal: variables with levels, equality and sets that
 * they are bound to, rigid ones, constructors, functions, records that may be open; most general
 * unifiers, schemes and their instances.
 */
public final class TypeLoom {
    public static final int NONE = -1;
    public static final int FULL = -2;

    private static final int MAX_CONSTRUCTORS = 2048;
    private static final int MAX_ARITY = 8;
    private static final int MAX_TYPES = 24576;
    private static final int MAX_PARTS = 65536;
    private static final int MAX_FIELDS = 128;
    private static final int MAX_LABEL = 32767;
    private static final int MAX_ROWS = 512;
    private static final int MAX_LEVEL = 100;
    private static final int MAX_SCHEMES = 2048;
    private static final int MAX_SCHEME_TYPES = 16384;
    private static final int MAX_SCHEME_PARTS = 32768;
    private static final int SET_BITS = 31;
    private static final int PATH_BYTES = 8;

    private static final int NEVER = 0;
    private static final int WITH_ARGUMENTS = 1;
    private static final int ALWAYS = 2;

    /** The kinds of nodes; the first five are numbered as look() tells them. */
    private static final int VARIABLE = 0;
    private static final int RIGID = 1;
    private static final int BUILT = 2;
    private static final int FUNCTION = 3;
    private static final int RECORD = 4;
    private static final int ROW = 5;
    /** A row that stands for fields now. */
    private static final int STRETCH = 6;
    /** In a scheme alone: a variable or a rigid one that is not quantified. */
    private static final int KEPT = 7;

    /** Above every level: what is in such a node may have any. */
    private static final int NO_LEVEL = MAX_LEVEL + 1;

    // Whenever two records are unified and a row comes to stand for fields, there is one free row less:
    // so this happens at most once for each row that record() made, makes at most one row more each
    // time, and writes down at most as many fields as a record may have.
    private static final int MAX_NODES = MAX_TYPES + 2 * MAX_ROWS;
    private static final int MAX_SLOTS = MAX_PARTS + MAX_ROWS * MAX_FIELDS;
    private static final int MAX_BUCKETS = 65536;
    /** Far more steps than a walk over all nodes and all their fields can take. */
    private static final int MAX_STEPS = 1 << 30;

    private final Constructors known = new Constructors();
    private final Pushed pushed = new Pushed();
    private final Web web = new Web();
    private final Walk walk = new Walk(web, known);
    private final Shapes shapes = new Shapes(web, walk);
    private final Unifier unifier = new Unifier(web, walk, known);
    private final Schemes kept = new Schemes(web, shapes);
    private int present = 0;

    public TypeLoom() {
    }

    public int constructor(int arity, int equality) {
        if (arity < 0 || arity > MAX_ARITY || equality < NEVER || equality > ALWAYS) {
            return NONE;
        }
        return known.add(arity, equality);
    }

    public int push(int label, int type) {
        if (label < NONE || label > MAX_LABEL || !web.isType(type) || pushed.hasField(label)) {
            return NONE;
        }
        return pushed.add(label, web.nodeOf(type));
    }

    public int built(int constructor) {
        if (!known.has(constructor) || pushed.fields > 0 || pushed.size != known.arityOf(constructor)) {
            return NONE;
        }
        if (!web.hasRoom(1, pushed.size)) {
            return FULL;
        }
        int node = web.addNode(BUILT, constructor, NO_LEVEL, 0);
        for (int i = 0; i < pushed.size; i++) {
            web.addPart(node, i, pushed.nodes.at(i));
        }
        pushed.drop();
        return web.addType(node);
    }

    public int record(boolean open) {
        if (pushed.fields < pushed.size) {
            return NONE;
        }
        if (!web.hasRoom(1, pushed.size) || open && web.rows >= MAX_ROWS) {
            return FULL;
        }
        int node = web.addNode(RECORD, 0, NO_LEVEL, 0);
        for (int i = 0; i < pushed.size; i++) {
            web.addPart(node, pushed.labels.at(i), pushed.nodes.at(i));
        }
        pushed.drop();
        if (open) {
            web.tails.put(node, web.addNode(ROW, 0, present, 0));
            web.rows++;
        }
        return web.addType(node);
    }

    public int function(int from, int to) {
        if (!web.isType(from) || !web.isType(to)) {
            return NONE;
        }
        if (!web.hasRoom(1, 2)) {
            return FULL;
        }
        int node = web.addNode(FUNCTION, 0, NO_LEVEL, 0);
        web.addPart(node, 0, web.nodeOf(from));
        web.addPart(node, 1, web.nodeOf(to));
        return web.addType(node);
    }

    public int variable(boolean wish, int set) {
        if (set < 0 || !known.mayBeSet(set, wish)) {
            return NONE;
        }
        return leaf(VARIABLE, set, wish);
    }

    public int rigid(boolean equality) {
        return leaf(RIGID, 0, equality);
    }

    private int leaf(int kind, int head, boolean wish) {
        if (!web.hasRoom(1, 0)) {
            return FULL;
        }
        return web.addType(web.addNode(kind, head, present, wish ? 1 : 0));
    }

    public int level(int now) {
        if (now < 0 || now > MAX_LEVEL) {
            return NONE;
        }
        int before = present;
        present = now;
        return before;
    }

    public boolean unify(int t, int u) {
        return web.isType(t) && web.isType(u) && unifier.solve(web.nodeOf(t), web.nodeOf(u));
    }

    public boolean same(int t, long path, int u, long other) {
        int one = web.follow(t, path);
        int two = web.follow(u, other);
        if (one == NONE || two == NONE || web.kinds.at(one) != web.kinds.at(two)) {
            return false;
        }
        shapes.arrange(one, two);
        return shapes.ranks.at(one) == shapes.ranks.at(two);
    }

    public int look(int t, long path, int what) {
        int node = web.follow(t, path);
        if (node == NONE) {
            return NONE;
        }
        int kind = web.kinds.at(node);
        switch (what) {
            case 0:
                return kind;
            case 1:
                return kind == BUILT ? web.heads.at(node) : NONE;
            case 2:
                return web.partCount(node);
            case 3:
                return walk.admits(node) ? 1 : 0;
            case 4:
                return levelOf(node);
            case 5:
                return kind == VARIABLE ? web.heads.at(node) : NONE;
            case 6:
                return kind != RECORD ? NONE : web.endOf(node) == NONE ? 0 : 1;
            default:
                return NONE;
        }
    }

    private int levelOf(int node) {
        int kind = web.kinds.at(node);
        int bearer = kind == RECORD ? web.endOf(node) : kind == VARIABLE || kind == RIGID ? node : NONE;
        return bearer == NONE ? NONE : web.levels.at(bearer);
    }

    public int label(int t, long path, int i) {
        int node = web.follow(t, path);
        if (node == NONE || web.kinds.at(node) != RECORD) {
            return NONE;
        }
        int slot = web.slotAt(node, i);
        return slot == NONE ? NONE : web.labels.at(slot);
    }

    public int scheme(int t) {
        if (!web.isType(t)) {
            return NONE;
        }
        int node = web.find(web.nodeOf(t));
        shapes.arrange(node, node);
        return kept.make(t, present);
    }

    public int quantified(int s, int what) {
        if (!kept.has(s)) {
            return NONE;
        }
        switch (what) {
            case 0:
                return kept.quantifieds.at(s);
            case 1:
                return kept.isClosed(s) ? 1 : 0;
            case 2:
                return kept.wishers.at(s);
            default:
                return NONE;
        }
    }

    public int instance(int s) {
        return kept.has(s) ? kept.spawn(s, present) : NONE;
    }

    public boolean alike(int s, int z) {
        return kept.has(s) && kept.has(z) && kept.isClosed(s) && kept.isClosed(z) && kept.match(s, z);
    }

    public boolean clear(int constructors, int schemes) {
        if (constructors < 0 || constructors > known.size || !kept.canKeep(schemes, constructors)) {
            return false;
        }
        known.size = constructors;
        kept.cutTo(schemes);
        web.drop();
        pushed.drop();
        present = 0;
        return true;
    }

    public int count(int what) {
        switch (what) {
            case 0:
                return known.size;
            case 1:
                return web.types;
            case 2:
                return pushed.size;
            case 3:
                return kept.size;
            case 4:
                return web.partsMade;
            case 5:
                return kept.types;
            case 6:
                return kept.parts;
            case 7:
                return web.rows;
            case 8:
                return present;
            default:
                return NONE;
        }
    }

    /**
     * Numbers in a row that is as long as it has been written: so a small object stays small, and what
     * a large one lets go as it grows is less than what it keeps. Never written means 0.
     */
    private static final class Ints {
        private static final int FIRST_LENGTH = 32;

        private final int limit;
        private int[] cells = new int[FIRST_LENGTH];

        Ints(int limit) {
            this.limit = limit;
        }

        int at(int i) {
            return i >= 0 && i < cells.length ? cells[i] : 0;
        }

        void put(int i, int value) {
            if (i < 0 || i >= limit) {
                return;
            }
            if (i >= cells.length) {
                cells = Arrays.copyOf(cells, Math.max(i + 1, Math.min(limit, 2 * cells.length)));
            }
            cells[i] = value;
        }
    }

    /** The constructors. */
    private static final class Constructors {
        private final Ints arities = new Ints(MAX_CONSTRUCTORS);
        private final Ints equalities = new Ints(MAX_CONSTRUCTORS);
        int size = 0;

        int add(int arity, int equality) {
            if (size >= MAX_CONSTRUCTORS) {
                return FULL;
            }
            arities.put(size, arity);
            equalities.put(size, equality);
            size++;
            return size - 1;
        }

        boolean has(int constructor) {
            return constructor >= 0 && constructor < size;
        }

        int arityOf(int constructor) {
            return arities.at(constructor);
        }

        int equalityOf(int constructor) {
            return equalities.at(constructor);
        }

        boolean mayBeSet(int set, boolean wish) {
            for (int c = 0; c < SET_BITS; c++) {
                boolean in = (set >> c & 1) != 0;
                if (in && (!has(c) || arities.at(c) != 0 || wish && equalities.at(c) == NEVER)) {
                    return false;
                }
            }
            return true;
        }

        /** Those of a set that admit equality; none of a set has arguments. */
        int admitting(int set) {
            int left = 0;
            for (int c = 0; c < SET_BITS; c++) {
                if (equalities.at(c) != NEVER) {
                    left |= set & 1 << c;
                }
            }
            return left;
        }
    }

    /** What is pushed: by rising labels, and as it was pushed where these are the same (arguments). */
    private static final class Pushed {
        final Ints labels = new Ints(MAX_FIELDS);
        final Ints nodes = new Ints(MAX_FIELDS);
        int size = 0;
        int fields = 0;

        boolean hasField(int label) {
            for (int i = 0; i < size; i++) {
                if (label != NONE && labels.at(i) == label) {
                    return true;
                }
            }
            return false;
        }

        int add(int label, int node) {
            if (size >= MAX_FIELDS) {
                return FULL;
            }
            int place = size;
            for (; place > 0 && labels.at(place - 1) > label; place--) {
                labels.put(place, labels.at(place - 1));
                nodes.put(place, nodes.at(place - 1));
            }
            labels.put(place, label);
            nodes.put(place, node);
            size++;
            fields += label == NONE ? 0 : 1;
            return size;
        }

        void drop() {
            size = 0;
            fields = 0;
        }
    }

    /**
     * Types and rows as nodes of one graph. Nodes that have become the same are one class: each leads,
     * by its parent, to the class's first node, and that one tells what they all are. The parts of
     * a node lie in slots by rising labels (an argument's label is its place); a record goes on at its
     * tail, a row, and so does a row that stands for fields.
     *
     * <p>A node's level and wish are its own, if it is a variable, a row or a rigid one; those of
     * another node are what variables that stand for it asked of all that is in it.
     */
    private static final class Web {
        final Ints kinds = new Ints(MAX_NODES);
        /** The constructor of a built one, the set of a variable. */
        final Ints heads = new Ints(MAX_NODES);
        final Ints levels = new Ints(MAX_NODES);
        final Ints wishes = new Ints(MAX_NODES);
        final Ints firsts = new Ints(MAX_NODES);
        final Ints sizes = new Ints(MAX_NODES);
        final Ints tails = new Ints(MAX_NODES);
        final Ints parents = new Ints(MAX_NODES);
        final Ints weights = new Ints(MAX_NODES);
        final Ints labels = new Ints(MAX_SLOTS);
        final Ints parts = new Ints(MAX_SLOTS);
        private final Ints numbered = new Ints(MAX_TYPES);
        int nodes = 0;
        int slots = 0;
        int types = 0;
        int partsMade = 0;
        int rows = 0;

        void drop() {
            nodes = 0;
            slots = 0;
            types = 0;
            partsMade = 0;
            rows = 0;
        }

        boolean isType(int type) {
            return type >= 0 && type < types;
        }

        int nodeOf(int type) {
            return numbered.at(type);
        }

        boolean hasRoom(int moreTypes, int moreParts) {
            return types + moreTypes <= MAX_TYPES && partsMade + moreParts <= MAX_PARTS;
        }

        int addNode(int kind, int head, int level, int wish) {
            int node = nodes;
            kinds.put(node, kind);
            heads.put(node, head);
            levels.put(node, level);
            wishes.put(node, wish);
            firsts.put(node, slots);
            sizes.put(node, 0);
            tails.put(node, NONE);
            parents.put(node, node);
            weights.put(node, 1);
            nodes++;
            return node;
        }

        /** A part more, behind those that a node has: no other node may have got parts since. */
        void addPart(int node, int label, int part) {
            labels.put(slots, label);
            parts.put(slots, part);
            slots++;
            sizes.put(node, sizes.at(node) + 1);
        }

        int addType(int node) {
            numbered.put(types, node);
            partsMade += sizes.at(node);
            types++;
            return types - 1;
        }

        int find(int node) {
            if (node == NONE) {
                return NONE;
            }
            int at = node;
            int up = parents.at(at);
            for (int i = 0; i < MAX_NODES && up != at; i++) {
                at = up;
                up = parents.at(at);
            }
            return at;
        }

        boolean hasFields(int node) {
            return node != NONE && (kinds.at(node) == RECORD || kinds.at(node) == STRETCH);
        }

        /** The free row that a record ends with, or NONE. */
        int endOf(int node) {
            int at = node;
            for (int i = 0; i < MAX_NODES && hasFields(at); i++) {
                at = find(tails.at(at));
            }
            return at == node ? NONE : at;
        }

        int partCount(int node) {
            int count = sizes.at(node);
            int at = hasFields(node) ? find(tails.at(node)) : NONE;
            for (int i = 0; i < MAX_NODES && hasFields(at); i++) {
                count += sizes.at(at);
                at = find(tails.at(at));
            }
            return count;
        }

        /** The slot with the least label that is not below another, of all that a node is now; or NONE. */
        int slotFrom(int node, int least) {
            if (kinds.at(node) == BUILT || kinds.at(node) == FUNCTION) {
                return least < sizes.at(node) ? firsts.at(node) + least : NONE;
            }
            int best = NONE;
            int at = node;
            for (int i = 0; i < MAX_NODES && at != NONE; i++) {
                int low = firsts.at(at);
                int end = low + sizes.at(at);
                int high = end;
                for (int k = 0; k < MAX_FIELDS && low < high; k++) {
                    int middle = (low + high) >>> 1;
                    if (labels.at(middle) < least) {
                        low = middle + 1;
                    } else {
                        high = middle;
                    }
                }
                if (low < end && (best == NONE || labels.at(low) < labels.at(best))) {
                    best = low;
                }
                at = find(tails.at(at));
            }
            return best;
        }

        /** The slot of part i, from 0, or NONE. */
        int slotAt(int node, int i) {
            if (i < 0 || i >= partCount(node)) {
                return NONE;
            }
            int slot = slotFrom(node, 0);
            for (int k = 0; k < i && slot != NONE; k++) {
                slot = slotFrom(node, labels.at(slot) + 1);
            }
            return slot;
        }

        int partIn(int slot) {
            return slot == NONE ? NONE : find(parts.at(slot));
        }

        /** What hangs from a node itself: its own parts, then its tail; NONE behind them. */
        int childAt(int node, int i) {
            int size = sizes.at(node);
            return i < size ? find(parts.at(firsts.at(node) + i)) : i == size ? find(tails.at(node)) : NONE;
        }

        int follow(int type, long path) {
            int at = isType(type) ? find(numbered.at(type)) : NONE;
            long rest = path;
            for (int i = 0; i < PATH_BYTES && at != NONE && (rest & 255) != 0; i++) {
                at = partIn(slotAt(at, (int) (rest & 255) - 1));
                rest >>>= 8;
            }
            return at;
        }
    }

    /** Walks over what is in a type, each class once: types may share so much that a tree has no end. */
    private static final class Walk {
        private final Web web;
        private final Constructors known;
        private final Ints stack = new Ints(MAX_NODES);
        private final Ints places = new Ints(MAX_NODES);
        private final Ints marks = new Ints(MAX_NODES);
        /** What the walk has left behind it: parts before what they are parts of. */
        final Ints order = new Ints(MAX_NODES);
        int size = 0;
        private int entered = 0;
        private int left = 1;

        Walk(Web web, Constructors known) {
            this.web = web;
            this.known = known;
        }

        void begin() {
            size = 0;
            entered += 2;
            left += 2;
        }

        /** By rising labels over types alone, or over rows as nodes too. False when something has itself in it. */
        boolean spread(int root, boolean byLabels) {
            int depth = marks.at(root) == left ? 0 : enter(root, 0);
            for (int step = 0; step < MAX_STEPS && depth > 0; step++) {
                int node = stack.at(depth - 1);
                int place = places.at(depth - 1);
                int slot = byLabels ? web.slotFrom(node, place) : NONE;
                int child = byLabels ? web.partIn(slot) : web.childAt(node, place);
                if (child == NONE) {
                    depth--;
                    marks.put(node, left);
                    order.put(size, node);
                    size++;
                    continue;
                }
                places.put(depth - 1, byLabels ? web.labels.at(slot) + 1 : place + 1);
                if (marks.at(child) == entered) {
                    return false;
                }
                if (marks.at(child) != left) {
                    depth = enter(child, depth);
                }
            }
            return true;
        }

        private int enter(int node, int depth) {
            stack.put(depth, node);
            places.put(depth, 0);
            marks.put(node, entered);
            return depth + 1;
        }

        boolean admits(int root) {
            begin();
            int depth = enter(root, 0);
            for (int step = 0; step < MAX_STEPS && depth > 0; step++) {
                depth--;
                int node = stack.at(depth);
                if (refuses(node) || isFree(node) && web.wishes.at(node) == 0) {
                    return false;
                }
                for (int i = 0; asksParts(node) && i <= web.sizes.at(node); i++) {
                    int child = web.childAt(node, i);
                    if (child != NONE && marks.at(child) != entered) {
                        depth = enter(child, depth);
                    }
                }
            }
            return true;
        }

        private boolean isFree(int node) {
            int kind = web.kinds.at(node);
            return kind == VARIABLE || kind == ROW || kind == RIGID;
        }

        /** Whether a node can't admit equality, whatever its parts are. */
        boolean refuses(int node) {
            int kind = web.kinds.at(node);
            return kind == FUNCTION || kind == BUILT && known.equalityOf(web.heads.at(node)) == NEVER;
        }

        /** Whether a node's parts must admit equality when it does. */
        boolean asksParts(int node) {
            return web.kinds.at(node) != BUILT || known.equalityOf(web.heads.at(node)) == WITH_ARGUMENTS;
        }
    }

    /** The different types that are in one or two, in the order of a scheme: those that are the same have one rank. */
    private static final class Shapes {
        private final Web web;
        private final Walk walk;
        final Ints ranks = new Ints(MAX_NODES);
        private final Ints buckets = new Ints(MAX_BUCKETS);
        private final Ints nexts = new Ints(MAX_NODES);
        /** One node for each, by its rank. */
        final Ints nodes = new Ints(MAX_NODES);
        int size = 0;

        Shapes(Web web, Walk walk) {
            this.web = web;
            this.walk = walk;
        }

        void arrange(int one, int two) {
            walk.begin();
            walk.spread(one, true);
            walk.spread(two, true);
            int mask = 15;
            while (mask < walk.size && mask < MAX_BUCKETS - 1) {
                mask = 2 * mask + 1;
            }
            for (int i = 0; i <= mask; i++) {
                buckets.put(i, NONE);
            }
            size = 0;
            for (int i = 0; i < walk.size; i++) {
                int node = walk.order.at(i);
                ranks.put(node, rankOf(node, hash(node) & mask));
            }
        }

        /** The rank of the type that a slot holds. */
        int rankIn(int slot) {
            return ranks.at(web.find(web.parts.at(slot)));
        }

        private int rankOf(int node, int bucket) {
            int rank = buckets.at(bucket);
            for (int i = 0; i < MAX_NODES && rank != NONE; i++) {
                if (isLike(nodes.at(rank), node)) {
                    return rank;
                }
                rank = nexts.at(rank);
            }
            nexts.put(size, buckets.at(bucket));
            buckets.put(bucket, size);
            nodes.put(size, node);
            size++;
            return size - 1;
        }

        private boolean isLeaf(int node) {
            return web.kinds.at(node) == VARIABLE || web.kinds.at(node) == RIGID;
        }

        private int hash(int node) {
            int hash = isLeaf(node) ? node : 7 * web.heads.at(node) + web.endOf(node);
            int slot = web.slotFrom(node, 0);
            for (int i = 0; i < MAX_FIELDS && slot != NONE; i++) {
                hash = 31 * (31 * hash + web.labels.at(slot)) + rankIn(slot);
                slot = web.slotFrom(node, web.labels.at(slot) + 1);
            }
            hash = 8 * hash + web.kinds.at(node);
            hash *= 0x9E3779B1;
            return hash >>> 12;
        }

        private boolean isLike(int one, int two) {
            if (isLeaf(one) || isLeaf(two) || web.kinds.at(one) != web.kinds.at(two)) {
                return one == two;
            }
            if (web.heads.at(one) != web.heads.at(two) || web.endOf(one) != web.endOf(two)) {
                return false;
            }
            int mine = web.slotFrom(one, 0);
            int yours = web.slotFrom(two, 0);
            for (int i = 0; i < MAX_FIELDS && mine != NONE && yours != NONE; i++) {
                if (web.labels.at(mine) != web.labels.at(yours) || rankIn(mine) != rankIn(yours)) {
                    return false;
                }
                mine = web.slotFrom(one, web.labels.at(mine) + 1);
                yours = web.slotFrom(two, web.labels.at(yours) + 1);
            }
            return mine == NONE && yours == NONE;
        }
    }

    /**
     * Makes two types equal. First all that must be the same becomes one class, though a type may come
     * to have itself in it; then that is looked for; then levels and wishes go from what stands for
     * something to what is in it, parts last. Whatever changes is written down, to be taken back.
     */
    private static final class Unifier {
        private final Web web;
        private final Walk walk;
        private final Constructors known;
        private final Ints lefts = new Ints(MAX_NODES);
        private final Ints rights = new Ints(MAX_NODES);
        private final Ints places = new Ints(MAX_NODES);
        private int depth = 0;
        private final Ints joined = new Ints(MAX_NODES);
        private int joins = 0;
        private final Ints boundRows = new Ints(2 * MAX_ROWS);
        private int bounds = 0;
        private final Ints changed = new Ints(MAX_NODES);
        private final Ints oldLevels = new Ints(MAX_NODES);
        private final Ints oldWishes = new Ints(MAX_NODES);
        private final Ints oldHeads = new Ints(MAX_NODES);
        private int changes = 0;
        private final Ints changeMarks = new Ints(MAX_NODES);
        private int turn = 0;

        Unifier(Web web, Walk walk, Constructors known) {
            this.web = web;
            this.walk = walk;
            this.known = known;
        }

        boolean solve(int t, int u) {
            int nodesBefore = web.nodes;
            int slotsBefore = web.slots;
            begin();
            boolean well = meet(t, u);
            for (int step = 0; step < MAX_STEPS && well && depth > 0; step++) {
                int mine = web.slotFrom(lefts.at(depth - 1), places.at(depth - 1));
                int yours = web.slotFrom(rights.at(depth - 1), places.at(depth - 1));
                if (mine == NONE || yours == NONE) {
                    // Their labels agreed when they met, and rows that are one give both the same.
                    depth--;
                } else {
                    places.put(depth - 1, web.labels.at(mine) + 1);
                    well = meet(web.parts.at(mine), web.parts.at(yours));
                }
            }
            if (well && settle(web.find(t))) {
                return true;
            }
            takeBack();
            web.nodes = nodesBefore;
            web.slots = slotsBefore;
            return false;
        }

        private void begin() {
            depth = 0;
            joins = 0;
            bounds = 0;
            changes = 0;
            turn++;
        }

        private boolean meet(int one, int two) {
            int x = web.find(one);
            int y = web.find(two);
            if (x == y) {
                return true;
            }
            int kind = web.kinds.at(x);
            int other = web.kinds.at(y);
            if (kind == VARIABLE || other == VARIABLE) {
                return kind != other ? bind(kind == VARIABLE ? x : y, kind == VARIABLE ? y : x) : joinVariables(x, y);
            }
            if (kind != other || kind == RIGID || web.heads.at(x) != web.heads.at(y)) {
                return false;
            }
            if (kind == RECORD && !meetRows(x, y)) {
                return false;
            }
            join(x, y, web.heads.at(x));
            lefts.put(depth, x);
            rights.put(depth, y);
            places.put(depth, 0);
            depth++;
            return true;
        }

        private boolean bind(int variable, int type) {
            int set = web.heads.at(variable);
            int kind = web.kinds.at(type);
            int head = web.heads.at(type);
            if (set != 0 && (kind != BUILT || head >= SET_BITS || (set >> head & 1) == 0)) {
                return false;
            }
            if (kind == RIGID && !canBeIn(type, web.levels.at(variable), web.wishes.at(variable))) {
                return false;
            }
            join(variable, type, head);
            return true;
        }

        private boolean canBeIn(int rigid, int level, int wish) {
            return web.levels.at(rigid) <= level && web.wishes.at(rigid) >= wish;
        }

        private boolean joinVariables(int x, int y) {
            int mine = web.heads.at(x);
            int yours = web.heads.at(y);
            int set = mine == 0 ? yours : yours == 0 ? mine : mine & yours;
            if (set == 0 && mine != yours) {
                return false;
            }
            join(x, y, set);
            return true;
        }

        /** Of a variable and what it comes to stand for the latter leads, of others the one with more behind it. */
        private void join(int x, int y, int head) {
            boolean akin = web.kinds.at(x) == web.kinds.at(y);
            boolean under = akin ? web.weights.at(x) < web.weights.at(y) : web.kinds.at(x) == VARIABLE;
            int child = under ? x : y;
            int root = under ? y : x;
            int level = Math.min(web.levels.at(child), web.levels.at(root));
            change(root, level, web.wishes.at(child) | web.wishes.at(root), head);
            web.parents.put(child, root);
            web.weights.put(root, web.weights.at(root) + web.weights.at(child));
            joined.put(joins, child);
            joins++;
        }

        private void change(int node, int level, int wish, int head) {
            if (changeMarks.at(node) != turn) {
                changeMarks.put(node, turn);
                changed.put(changes, node);
                oldLevels.put(changes, web.levels.at(node));
                oldWishes.put(changes, web.wishes.at(node));
                oldHeads.put(changes, web.heads.at(node));
                changes++;
            }
            web.levels.put(node, level);
            web.wishes.put(node, wish);
            web.heads.put(node, head);
        }

        /** Gives two records the same labels, and the same row or none; false when that can't be. */
        private boolean meetRows(int x, int y) {
            int mine = web.endOf(x);
            int yours = web.endOf(y);
            // Both are written before a row is bound, since that changes what the records have.
            int first = web.slots;
            int more = copyMissing(y, x);
            int second = web.slots;
            int fewer = copyMissing(x, y);
            if (mine == yours) {
                return more == 0 && fewer == 0;
            }
            if (mine == NONE && more > 0 || yours == NONE && fewer > 0 || web.partCount(x) + more > MAX_FIELDS) {
                return false;
            }
            if (mine != NONE && yours != NONE && more == 0 && fewer == 0) {
                join(mine, yours, 0);
                return true;
            }
            boolean both = more > 0 && fewer > 0;
            int left = both ? web.addNode(ROW, 0, NO_LEVEL, 0) : NONE;
            if (mine != NONE && (more > 0 || yours == NONE)) {
                bindRow(mine, first, more, both ? left : yours);
            }
            if (yours != NONE && (fewer > 0 || mine == NONE)) {
                bindRow(yours, second, fewer, both ? left : mine);
            }
            return true;
        }

        /** Writes down the fields of labels that one record has and another has not: how many. */
        private int copyMissing(int from, int in) {
            int before = web.slots;
            int slot = web.slotFrom(from, 0);
            for (int i = 0; i < MAX_FIELDS && slot != NONE; i++) {
                int label = web.labels.at(slot);
                int other = web.slotFrom(in, label);
                if (other == NONE || web.labels.at(other) != label) {
                    web.labels.put(web.slots, label);
                    web.parts.put(web.slots, web.parts.at(slot));
                    web.slots++;
                }
                slot = web.slotFrom(from, label + 1);
            }
            return web.slots - before;
        }

        private void bindRow(int row, int first, int size, int tail) {
            web.kinds.put(row, STRETCH);
            web.firsts.put(row, first);
            web.sizes.put(row, size);
            web.tails.put(row, tail);
            boundRows.put(bounds, row);
            bounds++;
        }

        /** Rows that were bound just now are looked at as well: what they ask is not told by the records. */
        private boolean settle(int root) {
            walk.begin();
            boolean well = walk.spread(root, false);
            for (int i = 0; i < bounds && well; i++) {
                well = walk.spread(boundRows.at(i), false);
            }
            for (int i = walk.size - 1; i >= 0 && well; i--) {
                well = handDown(walk.order.at(i));
            }
            return well;
        }

        private boolean handDown(int node) {
            int wish = web.wishes.at(node);
            if (wish != 0 && (walk.refuses(node) || !narrow(node))) {
                return false;
            }
            int asked = walk.asksParts(node) ? wish : 0;
            for (int i = 0; i <= web.sizes.at(node); i++) {
                int child = web.childAt(node, i);
                if (child != NONE && !give(child, web.levels.at(node), asked)) {
                    return false;
                }
            }
            return true;
        }

        /** The set of a variable with a wish keeps only what admits equality; false when nothing is left. */
        private boolean narrow(int node) {
            int set = web.heads.at(node);
            if (web.kinds.at(node) != VARIABLE || set == 0) {
                return true;
            }
            int left = known.admitting(set);
            if (left != set) {
                change(node, web.levels.at(node), 1, left);
            }
            return left != 0;
        }

        private boolean give(int node, int level, int wish) {
            if (web.kinds.at(node) == RIGID) {
                return canBeIn(node, level, wish);
            }
            if (web.levels.at(node) > level || web.wishes.at(node) < wish) {
                change(node, Math.min(web.levels.at(node), level), web.wishes.at(node) | wish, web.heads.at(node));
            }
            return true;
        }

        private void takeBack() {
            for (int i = joins - 1; i >= 0; i--) {
                int child = joined.at(i);
                int root = web.parents.at(child);
                web.weights.put(root, web.weights.at(root) - web.weights.at(child));
                web.parents.put(child, child);
            }
            for (int i = 0; i < bounds; i++) {
                int row = boundRows.at(i);
                web.kinds.put(row, ROW);
                web.sizes.put(row, 0);
                web.tails.put(row, NONE);
            }
            for (int i = 0; i < changes; i++) {
                int node = changed.at(i);
                web.levels.put(node, oldLevels.at(i));
                web.wishes.put(node, oldWishes.at(i));
                web.heads.put(node, oldHeads.at(i));
            }
        }
    }

    /**
     * Schemes, each with its different types in the order in which an instance makes them: so those of
     * two schemes that are alike are the same, number for number.
     */
    private static final class Schemes {
        private final Web web;
        private final Shapes shapes;
        private final Ints kinds = new Ints(MAX_SCHEME_TYPES);
        /** The constructor of a built one, the wish of a quantified one, the node of one that is not. */
        private final Ints heads = new Ints(MAX_SCHEME_TYPES);
        private final Ints tails = new Ints(MAX_SCHEME_TYPES);
        /** Where a type's parts begin: they end where the next one's do. */
        private final Ints firsts = new Ints(MAX_SCHEME_TYPES + 1);
        private final Ints labels = new Ints(MAX_SCHEME_PARTS);
        private final Ints ranks = new Ints(MAX_SCHEME_PARTS);
        /** Where a scheme's types begin: they end where the next one's do. */
        private final Ints starts = new Ints(MAX_SCHEMES + 1);
        private final Ints told = new Ints(MAX_SCHEMES);
        final Ints quantifieds = new Ints(MAX_SCHEMES);
        final Ints wishers = new Ints(MAX_SCHEMES);
        private final Ints keeps = new Ints(MAX_SCHEMES);
        private final Ints openRecords = new Ints(MAX_SCHEMES);
        private final Ints made = new Ints(MAX_SCHEME_TYPES);
        int size = 0;
        int types = 0;
        int parts = 0;

        Schemes(Web web, Shapes shapes) {
            this.web = web;
            this.shapes = shapes;
        }

        boolean has(int s) {
            return s >= 0 && s < size;
        }

        boolean isClosed(int s) {
            return keeps.at(s) == 0 && openRecords.at(s) == 0;
        }

        /** A scheme of the type that the shapes were arranged for. */
        int make(int t, int present) {
            int more = 0;
            for (int i = 0; i < shapes.size; i++) {
                if (isBarred(shapes.nodes.at(i), present)) {
                    return NONE;
                }
                more += web.partCount(shapes.nodes.at(i));
            }
            if (size >= MAX_SCHEMES || types + shapes.size > MAX_SCHEME_TYPES || parts + more > MAX_SCHEME_PARTS) {
                return FULL;
            }
            told.put(size, t);
            quantifieds.put(size, 0);
            wishers.put(size, 0);
            keeps.put(size, 0);
            openRecords.put(size, 0);
            for (int i = 0; i < shapes.size; i++) {
                write(shapes.nodes.at(i), present);
            }
            size++;
            starts.put(size, types);
            return size - 1;
        }

        private boolean isBarred(int node, int present) {
            if (web.kinds.at(node) == VARIABLE) {
                return web.heads.at(node) != 0 && web.levels.at(node) > present;
            }
            int row = web.kinds.at(node) == RECORD ? web.endOf(node) : NONE;
            return row != NONE && web.levels.at(row) > present;
        }

        private void write(int node, int present) {
            int kind = web.kinds.at(node);
            boolean leaf = kind == VARIABLE || kind == RIGID;
            if (leaf && web.levels.at(node) > present) {
                putType(VARIABLE, web.wishes.at(node), NONE);
                quantifieds.put(size, quantifieds.at(size) + 1);
                wishers.put(size, wishers.at(size) + web.wishes.at(node));
            } else if (leaf) {
                putType(KEPT, node, NONE);
                keeps.put(size, keeps.at(size) + 1);
            } else {
                int row = kind == RECORD ? web.endOf(node) : NONE;
                putType(kind, web.heads.at(node), row);
                openRecords.put(size, openRecords.at(size) + (row == NONE ? 0 : 1));
            }
            int slot = web.slotFrom(node, 0);
            for (int i = 0; i < MAX_FIELDS && slot != NONE; i++) {
                labels.put(parts, web.labels.at(slot));
                ranks.put(parts, shapes.rankIn(slot));
                parts++;
                slot = web.slotFrom(node, web.labels.at(slot) + 1);
            }
            firsts.put(types, parts);
        }

        private void putType(int kind, int head, int tail) {
            kinds.put(types, kind);
            heads.put(types, head);
            tails.put(types, tail);
            types++;
        }

        int spawn(int s, int present) {
            int start = starts.at(s);
            int end = starts.at(s + 1);
            if (!web.hasRoom(end - start - keeps.at(s), firsts.at(end) - firsts.at(start))) {
                return FULL;
            }
            int number = told.at(s);
            for (int i = start; i < end; i++) {
                if (kinds.at(i) == KEPT) {
                    made.put(i - start, heads.at(i));
                } else {
                    int node = spawnOne(i, present);
                    made.put(i - start, node);
                    number = web.addType(node);
                }
            }
            return number;
        }

        private int spawnOne(int i, int present) {
            if (kinds.at(i) == VARIABLE) {
                return web.addNode(VARIABLE, 0, present, heads.at(i));
            }
            int node = web.addNode(kinds.at(i), heads.at(i), NO_LEVEL, 0);
            web.tails.put(node, tails.at(i));
            for (int p = firsts.at(i); p < firsts.at(i + 1); p++) {
                web.addPart(node, labels.at(p), made.at(ranks.at(p)));
            }
            return node;
        }

        boolean match(int s, int z) {
            int start = starts.at(s);
            int other = starts.at(z);
            int length = starts.at(s + 1) - start;
            if (length != starts.at(z + 1) - other) {
                return false;
            }
            for (int i = 0; i < length; i++) {
                if (!matchOne(start + i, other + i)) {
                    return false;
                }
            }
            return true;
        }

        private boolean matchOne(int i, int j) {
            int first = firsts.at(i);
            int other = firsts.at(j);
            int length = firsts.at(i + 1) - first;
            if (kinds.at(i) != kinds.at(j) || heads.at(i) != heads.at(j) || length != firsts.at(j + 1) - other) {
                return false;
            }
            for (int p = 0; p < length; p++) {
                if (labels.at(first + p) != labels.at(other + p) || ranks.at(first + p) != ranks.at(other + p)) {
                    return false;
                }
            }
            return true;
        }

        boolean canKeep(int schemes, int constructors) {
            if (schemes < 0 || schemes > size) {
                return false;
            }
            for (int s = 0; s < schemes; s++) {
                if (!isClosed(s)) {
                    return false;
                }
            }
            for (int i = 0; i < starts.at(schemes); i++) {
                if (kinds.at(i) == BUILT && heads.at(i) >= constructors) {
                    return false;
                }
            }
            return true;
        }

        void cutTo(int schemes) {
            size = schemes;
            types = starts.at(schemes);
            parts = firsts.at(types);
        }
    }
}
