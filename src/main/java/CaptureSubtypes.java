/**
 * Types of a language with classes that have parameters: what is below what, and what may be
 * turned into what. The words in capitals in the comments are the document's.
 */
public final class CaptureSubtypes {
    public static final int NONE = -1, BAD = -2, FULL = -3, DEEP = -4, CLASH = -5;

    private static final int OBJECT = 0, INT = 1, NULL = 2;

    private static final int PLAIN = 0, BARE = 1, OF = 2, VARIABLE = 3, ROW = 4, WILD = 5,
            INT_SORT = 6, NULL_SORT = 7;

    /** A sort that is never told: a VARIABLE that stands for a WILD argument while a call runs. */
    private static final int CAUGHT = 8;

    private static final int ANY = 0, UP_TO = 1, DOWN_TO = 2;

    private static final int LAST = 1, SEALED_CLASS = 2, FACE = 3, SEALED_FACE = 4;

    /**
     * How far IS and MAY go into parts. SUPERS and BOUNDS have no WILD parts, so that each step
     * through a WILD argument uses up one of the few of the two types asked about; and however
     * deep an AS is, it is held against what is there, 6 deep: no question comes near this guard.
     */
    private static final int LEVELS = 40;

    /** How far into the parts of SUPERS and BOUNDS: 6 deep, as what is put in is not entered. */
    private static final int PART_LEVELS = 20;

    private final Classes classes;
    private final Types types;
    private final Shapes shapes;
    private final Order order;
    private final Turning turning;

    public CaptureSubtypes() {
        classes = new Classes();
        types = new Types();
        shapes = new Shapes(classes, types);
        order = new Order(classes, types, shapes);
        turning = new Turning(classes, types, shapes, order);
    }

    public int clear() {
        int before = classes.count;
        classes.empty();
        types.empty();
        return before;
    }

    public int declare(int kind, int parameters) {
        if (kind < 0 || kind > SEALED_FACE || parameters < 0 || parameters > Classes.PARAMETERS) {
            return BAD;
        }
        return classes.add(kind, parameters);
    }

    public int inherit(int c, int type) {
        if (!mayBeSuper(c, type)) {
            return BAD;
        }
        int parent = types.ownerOf(type);
        int slot = classes.freeSlot(c, parent);
        if (slot == NONE) {
            return FULL;
        }
        int oldType = classes.superType(c, slot);
        int oldParent = classes.superClass(c, slot);
        classes.setSuper(c, slot, type, parent);
        if (shapes.clashes()) {
            classes.setSuper(c, slot, oldType, oldParent);
            return CLASH;
        }
        return classes.putInCount(c);
    }

    public int bind(int c, int i, int type) {
        if (!classes.hasParameter(c, i) || !mayBeBound(c, i, type)) {
            return BAD;
        }
        return classes.addBound(c, i, type);
    }

    public int plain(int c) {
        if (!classes.has(c)) {
            return BAD;
        }
        return types.keep(classes.nameSort(c), c, NONE, NONE);
    }

    public int of(int c, int a, int b) {
        int parameters = classes.parametersOf(c);
        if (parameters == 0 || !types.mayBeArgument(a)) {
            return BAD;
        }
        if (parameters == 1) {
            return types.keep(OF, c, a, NONE);
        }
        return types.mayBeArgument(b) ? types.keep(OF, c, a, b) : BAD;
    }

    public int wild(int kind, int type) {
        if (kind == ANY) {
            return types.keep(WILD, ANY, NONE, NONE);
        }
        if (kind != UP_TO && kind != DOWN_TO) {
            return BAD;
        }
        if (!types.mayBeArgument(type) || types.sortOf(type) == WILD) {
            return BAD;
        }
        return types.keep(WILD, kind, type, NONE);
    }

    public int variable(int c, int i) {
        if (!classes.hasParameter(c, i)) {
            return BAD;
        }
        return types.keep(VARIABLE, c, i, NONE);
    }

    public int row(int type) {
        if (!types.standsAlone(type) || type == NULL) {
            return BAD;
        }
        return types.keep(ROW, NONE, type, NONE);
    }

    public int count(int what) {
        if (what == 0) {
            return classes.count;
        }
        return what == 1 ? types.kept : BAD;
    }

    public int told(int type, int what) {
        if (!types.has(type)) {
            return BAD;
        }
        switch (what) {
            case 0:
                return types.sortOf(type);
            case 1:
                return types.ownerOf(type);
            case 2:
                return types.firstOf(type);
            case 3:
                return types.secondOf(type);
            case 4:
                return types.depthOf(type);
            default:
                return BAD;
        }
    }

    public int known(int c, int what) {
        if (!classes.has(c)) {
            return BAD;
        }
        switch (what) {
            case 0:
                return classes.kindOf(c);
            case 1:
                return classes.parametersOf(c);
            case 2:
                return classes.heirCount(c);
            case 3:
                return classes.underCount(c);
            default:
                return BAD;
        }
    }

    public int below(int c, int d) {
        if (!classes.has(c) || !classes.has(d)) {
            return BAD;
        }
        return classes.isUnder(c, d) ? 1 : 0;
    }

    public int apart(int c, int d) {
        if (!classes.has(c) || !classes.has(d)) {
            return BAD;
        }
        return classes.areApart(c, d) ? 1 : 0;
    }

    public int is(int s, int t) {
        if (!types.standsAlone(s) || !types.standsAlone(t)) {
            return BAD;
        }
        int answer = 0;
        if (order.isOne(s, t, LEVELS)) {
            answer = 1;
        } else if (order.isUnchecked(s, t, LEVELS)) {
            answer = 2;
        }
        types.dropTo(types.kept);
        return answer;
    }

    public int may(int s, int t) {
        if (!types.standsAlone(s) || !types.standsAlone(t) || t == NULL) {
            return BAD;
        }
        boolean yes = turning.mayTurn(s, t, LEVELS);
        types.dropTo(types.kept);
        return yes ? 1 : 0;
    }

    public int as(int type, int d) {
        if (!types.standsAlone(type) || types.hasWildArgument(type) || !classes.has(d)) {
            return BAD;
        }
        if (!types.isOfClass(type) || !classes.isUnder(types.ownerOf(type), d)) {
            return NONE;
        }
        return settle(shapes.viewedAs(type, d));
    }

    public int erased(int type) {
        if (!types.standsAlone(type) || type == INT || type == NULL) {
            return BAD;
        }
        return settle(shapes.erasure(type));
    }

    public int good(int type) {
        if (!types.has(type) || types.sortOf(type) != OF) {
            return BAD;
        }
        boolean yes = order.keepsBounds(type);
        types.dropTo(types.kept);
        return yes ? 1 : 0;
    }

    /** The number of a TYPE that is there; one that was only formed for this call is not. */
    private int settle(int type) {
        int answer = types.has(type) ? type : FULL;
        types.dropTo(types.kept);
        return answer;
    }

    private boolean mayBeSuper(int c, int type) {
        if (!classes.has(c) || !types.has(type) || type == OBJECT || !types.isOfClass(type)) {
            return false;
        }
        int parent = types.ownerOf(type);
        if (parent >= c || classes.kindOf(parent) == LAST || !types.isInWordsOf(type, c)) {
            return false;
        }
        return classes.isFace(parent) || !classes.isFace(c);
    }

    private boolean mayBeBound(int c, int i, int type) {
        if (!types.has(type) || type == OBJECT || !types.isInWordsOf(type, c)) {
            return false;
        }
        boolean first = classes.boundCount(c, i) == 0;
        if (types.sortOf(type) == VARIABLE) {
            return first && types.firstOf(type) < i;
        }
        return types.isOfClass(type) && (first || classes.isFace(types.ownerOf(type)));
    }

    /** CLASSES with their KINDS, SUPERS and BOUNDS of PARAMETERS. */
    private static final class Classes {
        static final int MOST = 12, PARAMETERS = 2, BOUNDS = 2;

        /** Slot 0 is for the SUPER of KIND 0 or 2, slots 1 and 2 for those of KIND 3 or 4. */
        static final int SLOTS = 3;

        int count;
        private final int[] kinds = new int[MOST];
        private final int[] parameterCounts = new int[MOST];
        private final int[] superTypes = new int[MOST * SLOTS];
        private final int[] superClasses = new int[MOST * SLOTS];
        private final int[] bounds = new int[MOST * PARAMETERS * BOUNDS];
        private final int[] boundCounts = new int[MOST * PARAMETERS];

        /** Bit d of parents[c]: a SUPER of c is of d. */
        private final int[] parents = new int[MOST];

        /** Bit d of above[c]: c is BELOW d. */
        private final int[] above = new int[MOST];

        /** Bit d of apartFrom[c]: c and d are APART. */
        private final int[] apartFrom = new int[MOST];

        Classes() {
            empty();
        }

        void empty() {
            count = 0;
            write(0, 0, NONE);
            above[0] = 1;
        }

        int add(int kind, int parameters) {
            if (count >= MOST) {
                return FULL;
            }
            write(kind, parameters, kind < FACE ? OBJECT : NONE);
            reckon();
            return count - 1;
        }

        /** OBJECT'S number as a TYPE is its number as a CLASS, so that one word tells both. */
        private void write(int kind, int parameters, int firstSuper) {
            int c = count;
            if (c < 0 || c >= MOST) {
                return;
            }
            count = c + 1;
            kinds[c] = kind;
            parameterCounts[c] = parameters;
            parents[c] = 0;
            above[c] = 0;
            apartFrom[c] = 0;
            for (int slot = 0; slot < SLOTS; slot++) {
                superTypes[c * SLOTS + slot] = slot == 0 ? firstSuper : NONE;
                superClasses[c * SLOTS + slot] = slot == 0 ? firstSuper : NONE;
            }
            for (int i = 0; i < PARAMETERS; i++) {
                boundCounts[c * PARAMETERS + i] = 0;
            }
        }

        boolean has(int c) {
            return c >= 0 && c < count;
        }

        int kindOf(int c) {
            return c >= 0 && c < count ? kinds[c] : NONE;
        }

        boolean isFace(int c) {
            return c >= 0 && c < count && kinds[c] >= FACE;
        }

        int parametersOf(int c) {
            return c >= 0 && c < count ? parameterCounts[c] : 0;
        }

        boolean hasParameter(int c, int i) {
            return c >= 0 && c < count && i >= 0 && i < parameterCounts[c];
        }

        /** The sort of the TYPE that is the CLASS'S name alone. */
        int nameSort(int c) {
            return c >= 0 && c < count && parameterCounts[c] > 0 ? BARE : PLAIN;
        }

        boolean isUnder(int c, int d) {
            return c >= 0 && c < count && d >= 0 && d < count && (above[c] >> d & 1) == 1;
        }

        boolean areApart(int c, int d) {
            return c >= 0 && c < count && d >= 0 && d < count && (apartFrom[c] >> d & 1) == 1;
        }

        private boolean isHeir(int h, int c) {
            return h >= 0 && h < count && c >= 0 && c < count && (parents[h] >> c & 1) == 1;
        }

        int superType(int c, int slot) {
            boolean there = c >= 0 && c < count && slot >= 0 && slot < SLOTS;
            return there ? superTypes[c * SLOTS + slot] : NONE;
        }

        int superClass(int c, int slot) {
            boolean there = c >= 0 && c < count && slot >= 0 && slot < SLOTS;
            return there ? superClasses[c * SLOTS + slot] : NONE;
        }

        void setSuper(int c, int slot, int type, int parent) {
            if (c >= 0 && c < count && slot >= 0 && slot < SLOTS) {
                superTypes[c * SLOTS + slot] = type;
                superClasses[c * SLOTS + slot] = parent;
                reckon();
            }
        }

        /** Where a new SUPER of the CLASS parent goes, or NONE if its places are taken. */
        int freeSlot(int c, int parent) {
            if (!isFace(parent)) {
                return superType(c, 0) == OBJECT ? 0 : NONE;
            }
            for (int slot = 1; slot < SLOTS; slot++) {
                if (superType(c, slot) == NONE) {
                    return slot;
                }
            }
            return NONE;
        }

        int putInCount(int c) {
            int found = 0;
            for (int slot = 0; slot < SLOTS; slot++) {
                if (superType(c, slot) > OBJECT) {
                    found++;
                }
            }
            return found;
        }

        /** The first SUPER whose CLASS is BELOW d; or NONE. */
        int slotTowards(int c, int d) {
            for (int slot = 0; slot < SLOTS; slot++) {
                if (isUnder(superClass(c, slot), d)) {
                    return slot;
                }
            }
            return NONE;
        }

        int heirCount(int c) {
            int found = 0;
            for (int h = 0; h < count; h++) {
                if (isHeir(h, c)) {
                    found++;
                }
            }
            return found;
        }

        int underCount(int d) {
            int found = 0;
            for (int c = 0; c < count; c++) {
                if (isUnder(c, d)) {
                    found++;
                }
            }
            return found;
        }

        int boundCount(int c, int i) {
            boolean there = c >= 0 && c < count && i >= 0 && i < parameterCounts[c];
            return there ? boundCounts[c * PARAMETERS + i] : 0;
        }

        /** The BOUND at a place; OBJECT where none was put in. */
        int boundAt(int c, int i, int place) {
            if (place < 0 || place >= boundCount(c, i)) {
                return OBJECT;
            }
            return bounds[(c * PARAMETERS + i) * BOUNDS + place];
        }

        int addBound(int c, int i, int type) {
            int place = boundCount(c, i);
            if (!hasParameter(c, i) || place >= BOUNDS) {
                return FULL;
            }
            bounds[(c * PARAMETERS + i) * BOUNDS + place] = type;
            boundCounts[c * PARAMETERS + i] = place + 1;
            return place + 1;
        }

        private void reckon() {
            reckonAbove();
            reckonApart();
        }

        /** SUPERS are of lesser number, so that theirs are reckoned when they are asked for. */
        private void reckonAbove() {
            for (int c = 0; c < count; c++) {
                parents[c] = 0;
                above[c] = 1 | 1 << c;
                for (int slot = 0; slot < SLOTS; slot++) {
                    int parent = superClass(c, slot);
                    if (parent >= 0 && parent < c) {
                        parents[c] |= 1 << parent;
                        above[c] |= above[parent];
                    }
                }
            }
        }

        /** HEIRS are of greater number: the pairs with them come first. */
        private void reckonApart() {
            for (int c = count - 1; c >= 0; c--) {
                apartFrom[c] = 0;
                for (int d = count - 1; d >= 0; d--) {
                    if (mustBeApart(c, d)) {
                        apartFrom[c] |= 1 << d;
                    }
                }
            }
        }

        private boolean mustBeApart(int c, int d) {
            if (isUnder(c, d) || isUnder(d, c)) {
                return false;
            }
            if (!isFace(c) && !isFace(d) || kindOf(c) == LAST || kindOf(d) == LAST) {
                return true;
            }
            return isSealed(c) && heirsApartFrom(c, d) || isSealed(d) && apartFromHeirs(c, d);
        }

        private boolean isSealed(int c) {
            int kind = kindOf(c);
            return kind == SEALED_CLASS || kind == SEALED_FACE;
        }

        private boolean heirsApartFrom(int c, int d) {
            for (int h = 0; h < count; h++) {
                if (isHeir(h, c) && !areApart(h, d)) {
                    return false;
                }
            }
            return true;
        }

        private boolean apartFromHeirs(int c, int d) {
            for (int h = 0; h < count; h++) {
                if (isHeir(h, d) && !areApart(c, h)) {
                    return false;
                }
            }
            return true;
        }
    }

    /**
     * TYPES as rows of numbers, each written once, so that the same TYPE has the same number.
     * The kept ones are the TYPES that are there; behind them stand those that are formed while
     * a call runs, which are dropped again.
     */
    private static final class Types {
        static final int MOST = 150, DEEPEST = 6;

        /**
         * With what a call forms: an AS, or what is put into BOUNDS, adds one for each of the 150
         * at most, and no more than some five of these stand open at once.
         */
        static final int ROOM = 1024;

        private static final int WILD_INSIDE = 1 << Classes.MOST;

        int kept;
        private int top;
        private final int[] sorts = new int[ROOM];
        private final int[] owners = new int[ROOM];
        private final int[] firsts = new int[ROOM];
        private final int[] seconds = new int[ROOM];
        private final int[] depths = new int[ROOM];

        /** Bit c: a VARIABLE of CLASS c is a part; and WILD_INSIDE. */
        private final int[] insides = new int[ROOM];

        /** Of CAUGHT ones: what the WILD one is up to, and what it is down to. */
        private final int[] ups = new int[ROOM];
        private final int[] lows = new int[ROOM];

        Types() {
            empty();
        }

        void empty() {
            kept = 0;
            top = 0;
            keep(PLAIN, 0, NONE, NONE);
            keep(INT_SORT, NONE, NONE, NONE);
            keep(NULL_SORT, NONE, NONE, NONE);
        }

        boolean has(int t) {
            return t >= 0 && t < kept;
        }

        int sortOf(int t) {
            return t >= 0 && t < top ? sorts[t] : NONE;
        }

        int ownerOf(int t) {
            return t >= 0 && t < top ? owners[t] : NONE;
        }

        int firstOf(int t) {
            return t >= 0 && t < top ? firsts[t] : NONE;
        }

        int secondOf(int t) {
            return t >= 0 && t < top ? seconds[t] : NONE;
        }

        int depthOf(int t) {
            return t >= 0 && t < top ? depths[t] : 0;
        }

        int upOf(int t) {
            return t >= 0 && t < top ? ups[t] : NONE;
        }

        int lowOf(int t) {
            return t >= 0 && t < top ? lows[t] : NONE;
        }

        int argumentOf(int t, int i) {
            if (t < 0 || t >= top) {
                return NONE;
            }
            return i == 0 ? firsts[t] : seconds[t];
        }

        boolean standsAlone(int t) {
            return t >= 0 && t < kept && sorts[t] != WILD;
        }

        boolean mayBeArgument(int t) {
            return t >= 0 && t < kept && t != INT && t != NULL;
        }

        boolean isOfClass(int t) {
            int sort = sortOf(t);
            return sort == PLAIN || sort == BARE || sort == OF;
        }

        boolean isVariable(int t) {
            int sort = sortOf(t);
            return sort == VARIABLE || sort == CAUGHT;
        }

        boolean hasWildArgument(int t) {
            return sortOf(t) == OF && (sortOf(firstOf(t)) == WILD || sortOf(secondOf(t)) == WILD);
        }

        boolean mentions(int t, int c) {
            return t >= 0 && t < top && c >= 0 && c < Classes.MOST && (insides[t] >> c & 1) == 1;
        }

        /** Without WILD parts, and without VARIABLES but those of c. */
        boolean isInWordsOf(int t, int c) {
            return t >= 0 && t < top && c >= 0 && c < Classes.MOST && (insides[t] & ~(1 << c)) == 0;
        }

        /** A TYPE that stays, or the one that is there: its number; FULL; DEEP. */
        int keep(int sort, int owner, int first, int second) {
            int t = put(sort, owner, first, second, MOST);
            if (t >= kept) {
                kept = t + 1;
            }
            return t;
        }

        /** An ARGUMENT as it is; of a WILD one a VARIABLE that is always new. */
        int hold(int c, int i, int argument) {
            if (sortOf(argument) != WILD) {
                return argument;
            }
            int t = put(CAUGHT, c, i, NONE, ROOM);
            if (t >= 0 && t < top) {
                ups[t] = ownerOf(argument) == UP_TO ? firstOf(argument) : NONE;
                lows[t] = ownerOf(argument) == DOWN_TO ? firstOf(argument) : NONE;
            }
            return t;
        }

        /** Lets a CAUGHT VARIABLE know the TYPE whose ARGUMENTS go into its BOUNDS. */
        void setHome(int t, int home) {
            if (t >= 0 && t < top && sorts[t] == CAUGHT && seconds[t] == NONE) {
                seconds[t] = home;
            }
        }

        int mark() {
            return top;
        }

        void dropTo(int mark) {
            if (mark >= kept && mark < top) {
                top = mark;
            }
        }

        /**
         * The TYPE of these words: the one that is there, or a new one whose number is below the
         * limit: MOST for one that stays, ROOM for one that a call forms. FULL; DEEP if it stays.
         */
        int put(int sort, int owner, int first, int second, int limit) {
            for (int t = sort == CAUGHT ? top : 0; t < top; t++) {
                if (sorts[t] == sort && owners[t] == owner && firsts[t] == first
                        && seconds[t] == second) {
                    return t;
                }
            }
            boolean hasParts = sort == OF || sort == ROW || sort == WILD;
            int depth = 1;
            int inside = sort == VARIABLE ? 1 << owner : sort == WILD ? WILD_INSIDE : 0;
            if (hasParts && first >= 0 && first < top) {
                depth = 1 + depths[first];
                inside |= insides[first];
            }
            if (hasParts && second >= 0 && second < top) {
                depth = Math.max(depth, 1 + depths[second]);
                inside |= insides[second];
            }
            if (top < 0 || top >= ROOM || top >= limit) {
                return FULL;
            }
            if (limit == MOST && depth > DEEPEST) {
                return DEEP;
            }
            int t = top;
            top = t + 1;
            sorts[t] = sort;
            owners[t] = owner;
            firsts[t] = first;
            seconds[t] = second;
            depths[t] = depth;
            insides[t] = inside;
            ups[t] = NONE;
            lows[t] = NONE;
            return t;
        }
    }

    /**
     * TYPES made of TYPES: THE ERASED, CAUGHT, AS, ARGUMENTS put in for PARAMETERS. What has no
     * room, or goes too deep, is FULL.
     */
    private static final class Shapes {
        private final Classes classes;
        private final Types types;

        Shapes(Classes classes, Types types) {
            this.classes = classes;
            this.types = types;
        }

        /**
         * A loop, as an AS may be of ARGUMENTS far more ROWS deep than a TYPE that is there: each
         * SUPER on the way up adds its own. A VARIABLE inside may stand for further ROWS.
         */
        int erasure(int t) {
            int core = t;
            int rows = 0;
            for (int step = 0; step < Types.ROOM; step++) {
                if (types.isVariable(core)) {
                    core = boundOf(core, 0);
                } else if (types.sortOf(core) == ROW) {
                    core = types.firstOf(core);
                    rows++;
                } else {
                    int name = types.isOfClass(core) ? nameAlone(types.ownerOf(core)) : core;
                    return inRows(name, rows);
                }
            }
            return FULL;
        }

        private int inRows(int core, int rows) {
            int t = core;
            for (int row = 0; row < rows && t >= 0; row++) {
                t = types.put(ROW, NONE, t, NONE, Types.ROOM);
            }
            return t;
        }

        private int nameAlone(int c) {
            if (!classes.has(c)) {
                return FULL;
            }
            return types.put(classes.nameSort(c), c, NONE, NONE, Types.ROOM);
        }

        /** Of a VARIABLE; one that has none has OBJECT. */
        int boundCountOf(int v) {
            int own = Math.max(1, classes.boundCount(types.ownerOf(v), types.firstOf(v)));
            return types.upOf(v) == NONE ? own : own + 1;
        }

        int boundOf(int v, int place) {
            int ahead = types.upOf(v) == NONE ? 0 : 1;
            if (place < ahead) {
                return types.upOf(v);
            }
            int bound = classes.boundAt(types.ownerOf(v), types.firstOf(v), place - ahead);
            if (types.sortOf(v) == CAUGHT) {
                return putIn(bound, types.secondOf(v), PART_LEVELS);
            }
            return bound;
        }

        /** A TYPE in the words of home's CLASS, with home's ARGUMENTS put in for PARAMETERS. */
        private int putIn(int t, int home, int level) {
            int sort = types.sortOf(t);
            if (level <= 0) {
                return FULL;
            }
            if (types.sortOf(home) != OF || !types.mentions(t, types.ownerOf(home))) {
                return t;
            }
            if (sort == VARIABLE) {
                return types.argumentOf(home, types.firstOf(t));
            }
            boolean pair = types.secondOf(t) != NONE;
            int first = putIn(types.firstOf(t), home, level - 1);
            int second = pair ? putIn(types.secondOf(t), home, level - 1) : NONE;
            if (first < 0 || pair && second < 0) {
                return FULL;
            }
            return types.put(sort, types.ownerOf(t), first, second, Types.ROOM);
        }

        /** The TYPE with new VARIABLES for WILD ARGUMENTS, or itself if it has none. */
        int caught(int t) {
            if (!types.hasWildArgument(t)) {
                return t;
            }
            int c = types.ownerOf(t);
            boolean pair = types.secondOf(t) != NONE;
            int first = types.hold(c, 0, types.firstOf(t));
            int second = pair ? types.hold(c, 1, types.secondOf(t)) : NONE;
            if (first < 0 || pair && second < 0) {
                return FULL;
            }
            int home = types.put(OF, c, first, second, Types.ROOM);
            types.setHome(first, home);
            types.setHome(second, home);
            return home;
        }

        /** AS d of a TYPE, without WILD ARGUMENTS, of a CLASS BELOW d. */
        int viewedAs(int type, int d) {
            if (d == 0) {
                return OBJECT;
            }
            int t = type;
            for (int step = 0; step < Classes.MOST; step++) {
                int c = types.ownerOf(t);
                if (!types.isOfClass(t) || c == d) {
                    return t;
                }
                int slot = classes.slotTowards(c, d);
                if (types.sortOf(t) == BARE) {
                    t = nameAlone(classes.superClass(c, slot));
                } else {
                    t = putIn(classes.superType(c, slot), t, PART_LEVELS);
                }
            }
            return FULL;
        }

        /** Whether some AS d of some CLASS hangs on which of its SUPERS is taken. */
        boolean clashes() {
            for (int c = 1; c < classes.count; c++) {
                for (int d = 1; d < c; d++) {
                    if (clashesAt(c, d)) {
                        return true;
                    }
                }
            }
            return false;
        }

        /** A CLASS of its own VARIABLES has its SUPERS as they were put in. */
        private boolean clashesAt(int c, int d) {
            int mark = types.mark();
            int one = NONE;
            boolean differs = false;
            for (int slot = 0; slot < Classes.SLOTS; slot++) {
                if (classes.isUnder(classes.superClass(c, slot), d)) {
                    int other = viewedAs(classes.superType(c, slot), d);
                    differs = differs || one != NONE && one != other;
                    one = other;
                }
            }
            types.dropTo(mark);
            return differs;
        }
    }

    /** IS and UNCHECKED, and BOUNDS that are kept. */
    private static final class Order {
        private final Classes classes;
        private final Types types;
        private final Shapes shapes;

        Order(Classes classes, Types types, Shapes shapes) {
            this.classes = classes;
            this.types = types;
            this.shapes = shapes;
        }

        private boolean isOne(int s, int t, int level) {
            if (level <= 0 || s < 0 || t < 0) {
                return false;
            }
            if (s == t) {
                return true;
            }
            if (s == INT || t == INT) {
                return false;
            }
            if (s == NULL || t == OBJECT) {
                return true;
            }
            int mark = types.mark();
            boolean yes = isByParts(s, t, level - 1);
            types.dropTo(mark);
            return yes;
        }

        private boolean isByParts(int s, int t, int level) {
            if (types.isVariable(s) && someBoundIs(s, t, level)) {
                return true;
            }
            if (types.lowOf(t) != NONE && isOne(s, types.lowOf(t), level)) {
                return true;
            }
            if (types.sortOf(s) == ROW && types.sortOf(t) == ROW) {
                return isOne(types.firstOf(s), types.firstOf(t), level);
            }
            return types.isOfClass(s) && types.isOfClass(t) && isByClass(s, t, level);
        }

        private boolean someBoundIs(int s, int t, int level) {
            int bounds = shapes.boundCountOf(s);
            for (int place = 0; place < bounds; place++) {
                if (isOne(shapes.boundOf(s, place), t, level)) {
                    return true;
                }
            }
            return false;
        }

        private boolean isByClass(int s, int t, int level) {
            int d = types.ownerOf(t);
            if (!classes.isUnder(types.ownerOf(s), d)) {
                return false;
            }
            if (types.sortOf(t) != OF) {
                return true;
            }
            int view = shapes.viewedAs(shapes.caught(s), d);
            if (types.sortOf(view) != OF) {
                return false;
            }
            return isIn(types.firstOf(view), types.firstOf(t), level)
                    && isIn(types.secondOf(view), types.secondOf(t), level);
        }

        /** Whether an ARGUMENT is IN another one; at a place without PARAMETER both are NONE. */
        private boolean isIn(int argument, int other, int level) {
            if (argument == other) {
                return true;
            }
            if (types.sortOf(other) != WILD) {
                return false;
            }
            switch (types.ownerOf(other)) {
                case UP_TO:
                    return isOne(argument, types.firstOf(other), level);
                case DOWN_TO:
                    return isOne(types.firstOf(other), argument, level);
                default:
                    return true;
            }
        }

        private boolean isUnchecked(int s, int t, int level) {
            if (level <= 0 || types.sortOf(t) != OF) {
                return false;
            }
            if (types.isVariable(s)) {
                return someBoundIsUnchecked(s, t, level - 1);
            }
            int d = types.ownerOf(t);
            return types.isOfClass(s) && classes.isUnder(types.ownerOf(s), d)
                    && types.sortOf(shapes.viewedAs(shapes.caught(s), d)) == BARE;
        }

        private boolean someBoundIsUnchecked(int s, int t, int level) {
            int bounds = shapes.boundCountOf(s);
            for (int place = 0; place < bounds; place++) {
                if (isUnchecked(shapes.boundOf(s, place), t, level)) {
                    return true;
                }
            }
            return false;
        }

        /** Whether each ARGUMENT that is not WILD IS each BOUND of its PARAMETER. */
        boolean keepsBounds(int t) {
            int c = types.ownerOf(t);
            int home = shapes.caught(t);
            for (int i = 0; i < classes.parametersOf(c); i++) {
                boolean wild = types.sortOf(types.argumentOf(t, i)) == WILD;
                if (!wild && !keepsBoundsAt(home, i)) {
                    return false;
                }
            }
            return true;
        }

        private boolean keepsBoundsAt(int home, int i) {
            int c = types.ownerOf(home);
            int bounds = classes.boundCount(c, i);
            for (int place = 0; place < bounds; place++) {
                int bound = shapes.putIn(classes.boundAt(c, i, place), home, PART_LEVELS);
                if (!isOne(types.argumentOf(home, i), bound, LEVELS)) {
                    return false;
                }
            }
            return true;
        }
    }

    /** MAY, and ARGUMENTS that DIFFER. */
    private static final class Turning {
        private final Classes classes;
        private final Types types;
        private final Shapes shapes;
        private final Order order;

        Turning(Classes classes, Types types, Shapes shapes, Order order) {
            this.classes = classes;
            this.types = types;
            this.shapes = shapes;
            this.order = order;
        }

        private boolean mayTurn(int s, int t, int level) {
            if (level <= 0) {
                return false;
            }
            if (order.isOne(s, t, level - 1) || order.isOne(t, s, level - 1)) {
                return true;
            }
            if (s == INT || t == INT) {
                return false;
            }
            if (types.isVariable(s)) {
                return mayFromBounds(s, t, level - 1);
            }
            if (types.isVariable(t)) {
                return mayIntoBounds(s, t, level - 1);
            }
            if (types.sortOf(s) == ROW && types.sortOf(t) == ROW) {
                return mayTurn(types.firstOf(s), types.firstOf(t), level - 1);
            }
            return types.isOfClass(s) && types.isOfClass(t) && mayByClass(s, t);
        }

        private boolean mayFromBounds(int s, int t, int level) {
            int bounds = shapes.boundCountOf(s);
            for (int place = 0; place < bounds; place++) {
                if (!mayTurn(shapes.boundOf(s, place), t, level)) {
                    return false;
                }
            }
            return true;
        }

        private boolean mayIntoBounds(int s, int t, int level) {
            int bounds = shapes.boundCountOf(t);
            for (int place = 0; place < bounds; place++) {
                if (!mayTurn(s, shapes.boundOf(t, place), level)) {
                    return false;
                }
            }
            return true;
        }

        private boolean mayByClass(int s, int t) {
            int c = types.ownerOf(s);
            int d = types.ownerOf(t);
            if (classes.areApart(c, d)) {
                return false;
            }
            int mark = types.mark();
            int from = shapes.caught(s);
            int into = shapes.caught(t);
            boolean yes = true;
            for (int g = 1; g < classes.count && yes; g++) {
                if (classes.isUnder(c, g) && classes.isUnder(d, g)) {
                    int one = shapes.viewedAs(from, g);
                    int other = shapes.viewedAs(into, g);
                    yes = !differ(one, other, 0) && !differ(one, other, 1);
                }
            }
            types.dropTo(mark);
            return yes;
        }

        /** Whether two TYPES of one CLASS are of ARGUMENTS that DIFFER at a place. */
        private boolean differ(int one, int other, int place) {
            if (types.sortOf(one) != OF || types.sortOf(other) != OF) {
                return false;
            }
            int a = types.argumentOf(one, place);
            int b = types.argumentOf(other, place);
            if (a == b) {
                return false;
            }
            if (!types.isVariable(a) && !types.isVariable(b)) {
                return true;
            }
            for (int i = 0; i < facetCount(a); i++) {
                for (int k = 0; k < facetCount(b); k++) {
                    if (areStrangers(facet(a, i), facet(b, k))) {
                        return true;
                    }
                }
            }
            return false;
        }

        /** Whether of THE ERASED of two TYPES neither IS the other. */
        private boolean areStrangers(int a, int b) {
            int mark = types.mark();
            int one = shapes.erasure(a);
            int other = shapes.erasure(b);
            boolean yes = !order.isOne(one, other, LEVELS) && !order.isOne(other, one, LEVELS);
            types.dropTo(mark);
            return yes;
        }

        /** What stands for an ARGUMENT when it is told from another: BOUNDS, or itself. */
        private int facetCount(int t) {
            return types.isVariable(t) ? shapes.boundCountOf(t) : 1;
        }

        private int facet(int t, int place) {
            return types.isVariable(t) ? shapes.boundOf(t, place) : t;
        }
    }
}
