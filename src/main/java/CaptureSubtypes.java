/**
 * Types of a language with classes that have parameters: what is below what, and what may be
 * turned into what. The words in capitals in the comments are the document's.
 */
public final class CaptureSubtypes {
    public static final int NONE = -1, BAD = -2, FULL = -3, DEEP = -4, CLASH = -5;

    private static final int OBJECT = 0, INT = 1, NULL = 2;

    private static final int PLAIN = 0, BARE = 1, OF = 2, VARIABLE = 3, ROW = 4, WILD = 5,
            INT_SORT = 6, NULL_SORT = 7;

    /** A sort that is never told: a VARIABLE that stands for a WILD argument while a call runs. */
    private static final int CAUGHT = 8;

    private static final int ANY = 0, UP_TO = 1, DOWN_TO = 2;

    private static final int LAST = 1, SEALED_CLASS = 2, FACE = 3, SEALED_FACE = 4;

    /**
     * How far IS and MAY go into parts. SUPERS and BOUNDS have no WILD parts, so that each step
     * through a WILD argument uses up one of the few of the two types asked about: no question
     * comes near this guard.
     */
    private static final int LEVELS = 48;

    private final Classes classes;
    private final Types types;
    private final Shapes shapes;
    private final Order order;
    private final Turning turning;

    public CaptureSubtypes() {
        classes = new Classes();
        types = new Types();
        shapes = new Shapes(classes, types);
        order = new Order(classes, types, shapes);
        turning = new Turning(classes, types, shapes, order);
    }

    public int clear() {
        int before = classes.count;
        classes.empty();
        types.empty();
        return before;
    }

    public int declare(int kind, int parameters) {
        if (kind < 0 || kind > SEALED_FACE || parameters < 0 || parameters > Classes.PARAMETERS) {
            return BAD;
        }
        return classes.add(kind, parameters);
    }

    public int inherit(int c, int type) {
        if (!maySucceed(c, type)) {
            return BAD;
        }
        int parent = types.ownerOf(type);
        int slot = classes.freeSlot(c, parent);
        if (slot == NONE) {
            return FULL;
        }
        int oldType = classes.superType(c, slot);
        int oldParent = classes.superClass(c, slot);
        classes.setSuper(c, slot, type, parent);
        if (shapes.clashes()) {
            classes.setSuper(c, slot, oldType, oldParent);
            return CLASH;
        }
        return classes.putInCount(c);
    }

    public int bind(int c, int i, int type) {
        if (!classes.hasParameter(c, i) || !mayBound(c, i, type)) {
            return BAD;
        }
        return classes.addBound(c, i, type);
    }

    public int plain(int c) {
        if (!classes.has(c)) {
            return BAD;
        }
        return types.keep(classes.nameSort(c), c, NONE, NONE);
    }

    public int of(int c, int a, int b) {
        int parameters = classes.parametersOf(c);
        if (parameters == 0 || !types.mayBeArgument(a)) {
            return BAD;
        }
        if (parameters == 1) {
            return types.keep(OF, c, a, NONE);
        }
        return types.mayBeArgument(b) ? types.keep(OF, c, a, b) : BAD;
    }

    public int wild(int kind, int type) {
        if (kind == ANY) {
            return types.keep(WILD, ANY, NONE, NONE);
        }
        if (kind != UP_TO && kind != DOWN_TO) {
            return BAD;
        }
        if (!types.mayBeArgument(type) || types.sortOf(type) == WILD) {
            return BAD;
        }
        return types.keep(WILD, kind, type, NONE);
    }

    public int variable(int c, int i) {
        if (!classes.hasParameter(c, i)) {
            return BAD;
        }
        return types.keep(VARIABLE, c, i, NONE);
    }

    public int row(int type) {
        if (!types.standsAlone(type) || type == NULL) {
            return BAD;
        }
        return types.keep(ROW, NONE, type, NONE);
    }

    public int count(int what) {
        if (what == 0) {
            return classes.count;
        }
        return what == 1 ? types.kept : BAD;
    }

    public int told(int type, int what) {
        if (!types.has(type)) {
            return BAD;
        }
        switch (what) {
            case 0:
                return types.sortOf(type);
            case 1:
                return types.ownerOf(type);
            case 2:
                return types.firstOf(type);
            case 3:
                return types.secondOf(type);
            case 4:
                return types.depthOf(type);
            default:
                return BAD;
        }
    }

    public int known(int c, int what) {
        if (!classes.has(c)) {
            return BAD;
        }
        switch (what) {
            case 0:
                return classes.kindOf(c);
            case 1:
                return classes.parametersOf(c);
            case 2:
                return classes.heirCount(c);
            case 3:
                return classes.underCount(c);
            default:
                return BAD;
        }
    }

    public int below(int c, int d) {
        if (!classes.has(c) || !classes.has(d)) {
            return BAD;
        }
        return classes.isUnder(c, d) ? 1 : 0;
    }

    public int apart(int c, int d) {
        if (!classes.has(c) || !classes.has(d)) {
            return BAD;
        }
        return classes.areApart(c, d) ? 1 : 0;
    }

    public int is(int s, int t) {
        if (!types.standsAlone(s) || !types.standsAlone(t)) {
            return BAD;
        }
        int answer = 0;
        if (order.isOne(s, t, LEVELS)) {
            answer = 1;
        } else if (order.isUnchecked(s, t, LEVELS)) {
            answer = 2;
        }
        types.dropTo(types.kept);
        return answer;
    }

    public int may(int s, int t) {
        if (!types.standsAlone(s) || !types.standsAlone(t) || t == NULL) {
            return BAD;
        }
        boolean yes = turning.mayTurn(s, t, LEVELS);
        types.dropTo(types.kept);
        return yes ? 1 : 0;
    }

    public int as(int type, int d) {
        if (!types.standsAlone(type) || types.hasWildArgument(type) || !classes.has(d)) {
            return BAD;
        }
        if (!types.isOfClass(type) || !classes.isUnder(types.ownerOf(type), d)) {
            return NONE;
        }
        return settle(shapes.viewedAs(type, d));
    }

    public int erased(int type) {
        if (!types.standsAlone(type) || type == INT || type == NULL) {
            return BAD;
        }
        return settle(shapes.erasure(type, Shapes.PART_LEVELS));
    }

    public int good(int type) {
        if (!types.has(type) || types.sortOf(type) != OF) {
            return BAD;
        }
        boolean yes = order.keepsBounds(type);
        types.dropTo(types.kept);
        return yes ? 1 : 0;
    }

    /** The number of a TYPE that is there; one that was only formed for this call is not. */
    private int settle(int type) {
        int answer = types.has(type) ? type : FULL;
        types.dropTo(types.kept);
        return answer;
    }

    private boolean maySucceed(int c, int type) {
        if (!classes.has(c) || !types.has(type) || type == OBJECT || !types.isOfClass(type)) {
            return false;
        }
        int parent = types.ownerOf(type);
        if (parent >= c || classes.kindOf(parent) == LAST || !types.isOwnWord(type, c)) {
            return false;
        }
        return classes.isFace(parent) || !classes.isFace(c);
    }

    private boolean mayBound(int c, int i, int type) {
        if (!types.has(type) || type == OBJECT || !types.isOwnWord(type, c)) {
            return false;
        }
        boolean first = classes.boundCount(c, i) == 0;
        if (types.sortOf(type) == VARIABLE) {
            return first && types.firstOf(type) < i;
        }
        return types.isOfClass(type) && (first || classes.isFace(types.ownerOf(type)));
    }

    /** CLASSES with their KINDS, SUPERS and BOUNDS of PARAMETERS. */
    private static final class Classes {
        static final int MOST = 12, PARAMETERS = 2, BOUNDS = 2;

        /** Slot 0 is for the SUPER of KIND 0 or 2, slots 1 and 2 for those of KIND 3 or 4. */
        static final int SLOTS = 3;

        int count;
        private final int[] kind = new int[MOST];
        private final int[] parameters = new int[MOST];
        private final int[] superType = new int[MOST * SLOTS];
        private final int[] superClass = new int[MOST * SLOTS];
        private final int[] bound = new int[MOST * PARAMETERS * BOUNDS];
        private final int[] boundCount = new int[MOST * PARAMETERS];

        /** Bit d of above[c]: c is BELOW d. */
        private final int[] above = new int[MOST];

        /** Bit d of apartFrom[c]: c and d are APART. */
        private final int[] apartFrom = new int[MOST];

        Classes() {
            empty();
        }

        void empty() {
            count = 0;
            add(0, 0);
        }

        int add(int newKind, int newParameters) {
            if (count >= MOST) {
                return FULL;
            }
            int c = count;
            count++;
            kind[c] = newKind;
            parameters[c] = newParameters;
            for (int slot = 0; slot < SLOTS; slot++) {
                boolean startsWithObject = slot == 0 && c > 0 && newKind < FACE;
                superType[c * SLOTS + slot] = startsWithObject ? OBJECT : NONE;
                superClass[c * SLOTS + slot] = startsWithObject ? 0 : NONE;
            }
            for (int i = 0; i < PARAMETERS; i++) {
                boundCount[c * PARAMETERS + i] = 0;
            }
            reckon();
            return c;
        }

        boolean has(int c) {
            return c >= 0 && c < count;
        }

        int kindOf(int c) {
            return has(c) ? kind[c] : NONE;
        }

        int parametersOf(int c) {
            return has(c) ? parameters[c] : 0;
        }

        boolean hasParameter(int c, int i) {
            return i >= 0 && i < parametersOf(c);
        }

        /** The sort of the TYPE that is the CLASS'S name alone. */
        int nameSort(int c) {
            return parametersOf(c) == 0 ? PLAIN : BARE;
        }

        boolean isFace(int c) {
            return kindOf(c) >= FACE;
        }

        boolean isUnder(int c, int d) {
            return has(c) && has(d) && (above[c] >> d & 1) == 1;
        }

        boolean areApart(int c, int d) {
            return has(c) && has(d) && (apartFrom[c] >> d & 1) == 1;
        }

        int superType(int c, int slot) {
            return hasSlot(c, slot) ? superType[c * SLOTS + slot] : NONE;
        }

        int superClass(int c, int slot) {
            return hasSlot(c, slot) ? superClass[c * SLOTS + slot] : NONE;
        }

        void setSuper(int c, int slot, int type, int parent) {
            if (hasSlot(c, slot)) {
                superType[c * SLOTS + slot] = type;
                superClass[c * SLOTS + slot] = parent;
                reckon();
            }
        }

        /** Where a new SUPER of the CLASS parent goes, or NONE if its places are taken. */
        int freeSlot(int c, int parent) {
            if (!isFace(parent)) {
                return superType(c, 0) == OBJECT ? 0 : NONE;
            }
            for (int slot = 1; slot < SLOTS; slot++) {
                if (superType(c, slot) == NONE) {
                    return slot;
                }
            }
            return NONE;
        }

        int putInCount(int c) {
            int found = 0;
            for (int slot = 0; slot < SLOTS; slot++) {
                if (superType(c, slot) > OBJECT) {
                    found++;
                }
            }
            return found;
        }

        /** The first SUPER, in the order of slots from one on, that is BELOW d; or NONE. */
        int slotTowards(int c, int d, int from) {
            for (int slot = from; slot < SLOTS; slot++) {
                if (isUnder(superClass(c, slot), d)) {
                    return slot;
                }
            }
            return NONE;
        }

        int heirCount(int c) {
            int found = 0;
            for (int h = 0; h < count; h++) {
                if (isHeir(h, c)) {
                    found++;
                }
            }
            return found;
        }

        int underCount(int d) {
            int found = 0;
            for (int c = 0; c < count; c++) {
                if (isUnder(c, d)) {
                    found++;
                }
            }
            return found;
        }

        int boundCount(int c, int i) {
            return hasParameter(c, i) ? boundCount[c * PARAMETERS + i] : 0;
        }

        /** The BOUND at a place; OBJECT where none was put in. */
        int boundAt(int c, int i, int place) {
            if (place < 0 || place >= boundCount(c, i)) {
                return OBJECT;
            }
            return bound[(c * PARAMETERS + i) * BOUNDS + place];
        }

        int addBound(int c, int i, int type) {
            int place = boundCount(c, i);
            if (!hasParameter(c, i) || place >= BOUNDS) {
                return FULL;
            }
            bound[(c * PARAMETERS + i) * BOUNDS + place] = type;
            boundCount[c * PARAMETERS + i] = place + 1;
            return place + 1;
        }

        private boolean hasSlot(int c, int slot) {
            return has(c) && slot >= 0 && slot < SLOTS;
        }

        private boolean isHeir(int h, int c) {
            for (int slot = 0; slot < SLOTS; slot++) {
                if (superClass(h, slot) == c) {
                    return true;
                }
            }
            return false;
        }

        private boolean isSealed(int c) {
            return kindOf(c) == SEALED_CLASS || kindOf(c) == SEALED_FACE;
        }

        private void reckon() {
            reckonAbove();
            reckonApart();
        }

        /** SUPERS are of lesser number, so that theirs are reckoned when they are asked for. */
        private void reckonAbove() {
            for (int c = 0; c < count; c++) {
                above[c] = 1 | 1 << c;
                for (int slot = 0; slot < SLOTS; slot++) {
                    int parent = superClass(c, slot);
                    if (has(parent)) {
                        above[c] |= above[parent];
                    }
                }
            }
        }

        /** HEIRS are of greater number: the pairs with them come first. */
        private void reckonApart() {
            for (int c = count - 1; c >= 0; c--) {
                apartFrom[c] = 0;
                for (int d = count - 1; d >= 0; d--) {
                    if (reckonApart(c, d)) {
                        apartFrom[c] |= 1 << d;
                    }
                }
            }
        }

        private boolean reckonApart(int c, int d) {
            if (isUnder(c, d) || isUnder(d, c)) {
                return false;
            }
            if (!isFace(c) && !isFace(d) || kindOf(c) == LAST || kindOf(d) == LAST) {
                return true;
            }
            return isSealed(c) && firstHeirsApart(c, d) || isSealed(d) && secondHeirsApart(c, d);
        }

        private boolean firstHeirsApart(int c, int d) {
            for (int h = c + 1; h < count; h++) {
                if (isHeir(h, c) && !areApart(h, d)) {
                    return false;
                }
            }
            return true;
        }

        private boolean secondHeirsApart(int c, int d) {
            for (int h = d + 1; h < count; h++) {
                if (isHeir(h, d) && !areApart(c, h)) {
                    return false;
                }
            }
            return true;
        }
    }

    /**
     * TYPES as rows of numbers, each written once, so that the same TYPE has the same number.
     * The kept ones are the TYPES that are there; behind them stand those that are formed while
     * a call runs, which are dropped again.
     */
    private static final class Types {
        static final int MOST = 150, DEEPEST = 6;

        /** With what a call forms. Far more than SUPERS and BOUNDS out of 150 TYPES can ask for. */
        static final int ROOM = 4096;

        private static final int WILD_INSIDE = 1 << Classes.MOST;

        int kept;
        private int top;
        private final int[] sort = new int[ROOM];
        private final int[] owner = new int[ROOM];
        private final int[] first = new int[ROOM];
        private final int[] second = new int[ROOM];
        private final int[] depth = new int[ROOM];

        /** Bit c: a VARIABLE of CLASS c is a part; and WILD_INSIDE. */
        private final int[] inside = new int[ROOM];

        private final int[] up = new int[ROOM];
        private final int[] low = new int[ROOM];

        Types() {
            empty();
        }

        void empty() {
            kept = 0;
            top = 0;
            keep(PLAIN, 0, NONE, NONE);
            keep(INT_SORT, NONE, NONE, NONE);
            keep(NULL_SORT, NONE, NONE, NONE);
        }

        boolean has(int t) {
            return t >= 0 && t < kept;
        }

        private boolean isWritten(int t) {
            return t >= 0 && t < top;
        }

        int sortOf(int t) {
            return isWritten(t) ? sort[t] : NONE;
        }

        int ownerOf(int t) {
            return isWritten(t) ? owner[t] : NONE;
        }

        int firstOf(int t) {
            return isWritten(t) ? first[t] : NONE;
        }

        int secondOf(int t) {
            return isWritten(t) ? second[t] : NONE;
        }

        int depthOf(int t) {
            return isWritten(t) ? depth[t] : 0;
        }

        int upOf(int t) {
            return isWritten(t) ? up[t] : NONE;
        }

        int lowOf(int t) {
            return isWritten(t) ? low[t] : NONE;
        }

        int argument(int t, int i) {
            return i == 0 ? firstOf(t) : secondOf(t);
        }

        boolean standsAlone(int t) {
            return has(t) && sortOf(t) != WILD;
        }

        boolean mayBeArgument(int t) {
            return has(t) && t != INT && t != NULL;
        }

        boolean isOfClass(int t) {
            int s = sortOf(t);
            return s == PLAIN || s == BARE || s == OF;
        }

        boolean isVariable(int t) {
            int s = sortOf(t);
            return s == VARIABLE || s == CAUGHT;
        }

        boolean hasWildArgument(int t) {
            return sortOf(t) == OF && (sortOf(firstOf(t)) == WILD || sortOf(secondOf(t)) == WILD);
        }

        boolean mentions(int t, int c) {
            return isWritten(t) && c >= 0 && c < Classes.MOST && (inside[t] >> c & 1) == 1;
        }

        /** Without WILD parts and VARIABLES but those of c. */
        boolean isOwnWord(int t, int c) {
            if (!isWritten(t) || c < 0 || c >= Classes.MOST) {
                return false;
            }
            return (inside[t] & ~(1 << c)) == 0;
        }

        /** A TYPE to stay: its number, or FULL, or DEEP. */
        int keep(int s, int o, int a, int b) {
            int found = find(s, o, a, b);
            if (found != NONE) {
                return found;
            }
            if (kept >= MOST) {
                return FULL;
            }
            if (depthWith(s, a, b) > DEEPEST) {
                return DEEP;
            }
            int t = write(s, o, a, b);
            kept = top;
            return t;
        }

        /** A TYPE for the time of a call, or the one that is there; NONE if there is no room. */
        int form(int s, int o, int a, int b) {
            int found = find(s, o, a, b);
            return found != NONE ? found : write(s, o, a, b);
        }

        int formRow(int part) {
            return isWritten(part) ? form(ROW, NONE, part, NONE) : NONE;
        }

        /** A new VARIABLE for a WILD argument of CLASS c at place i: never one that is there. */
        int formCaught(int c, int i, int wild) {
            int t = write(CAUGHT, c, i, NONE);
            if (isWritten(t)) {
                up[t] = ownerOf(wild) == UP_TO ? firstOf(wild) : NONE;
                low[t] = ownerOf(wild) == DOWN_TO ? firstOf(wild) : NONE;
            }
            return t;
        }

        /** Lets a CAUGHT VARIABLE know the TYPE whose ARGUMENTS go into its BOUNDS. */
        void setHome(int caught, int home) {
            if (sortOf(caught) == CAUGHT) {
                second[caught] = home;
            }
        }

        int mark() {
            return top;
        }

        void dropTo(int mark) {
            if (mark >= kept && mark < top) {
                top = mark;
            }
        }

        private int find(int s, int o, int a, int b) {
            for (int t = 0; t < top; t++) {
                if (sort[t] == s && owner[t] == o && first[t] == a && second[t] == b) {
                    return t;
                }
            }
            return NONE;
        }

        private int write(int s, int o, int a, int b) {
            if (top < 0 || top >= ROOM) {
                return NONE;
            }
            int t = top;
            sort[t] = s;
            owner[t] = o;
            first[t] = a;
            second[t] = b;
            depth[t] = depthWith(s, a, b);
            inside[t] = insideWith(s, o, a, b);
            up[t] = NONE;
            low[t] = NONE;
            top = t + 1;
            return t;
        }

        private static boolean hasParts(int s) {
            return s == OF || s == ROW || s == WILD;
        }

        private int depthWith(int s, int a, int b) {
            return hasParts(s) ? 1 + Math.max(depthOf(a), depthOf(b)) : 1;
        }

        private int insideWith(int s, int o, int a, int b) {
            if (s == VARIABLE) {
                return 1 << o;
            }
            if (!hasParts(s)) {
                return 0;
            }
            int own = s == WILD ? WILD_INSIDE : 0;
            return own | insideOf(a) | insideOf(b);
        }

        private int insideOf(int t) {
            return isWritten(t) ? inside[t] : 0;
        }
    }

    /** TYPES made of TYPES: THE ERASED, CAUGHT, AS, ARGUMENTS put in for PARAMETERS. */
    private static final class Shapes {
        /** How far into parts; TYPES that are there are 6 deep, VARIABLES lead on to others. */
        static final int PART_LEVELS = 20;

        private final Classes classes;
        private final Types types;

        Shapes(Classes classes, Types types) {
            this.classes = classes;
            this.types = types;
        }

        int erasure(int t, int level) {
            if (level <= 0) {
                return NONE;
            }
            if (types.isOfClass(t)) {
                return nameAlone(types.ownerOf(t));
            }
            if (types.isVariable(t)) {
                return erasure(boundOf(t, 0), level - 1);
            }
            if (types.sortOf(t) == ROW) {
                return types.formRow(erasure(types.firstOf(t), level - 1));
            }
            return t;
        }

        /** Of a VARIABLE; one that has none has OBJECT. */
        int boundCountOf(int v) {
            int own = Math.max(1, classes.boundCount(types.ownerOf(v), types.firstOf(v)));
            return types.upOf(v) == NONE ? own : own + 1;
        }

        int boundOf(int v, int place) {
            int ahead = types.upOf(v) == NONE ? 0 : 1;
            if (place < ahead) {
                return types.upOf(v);
            }
            int bound = classes.boundAt(types.ownerOf(v), types.firstOf(v), place - ahead);
            if (types.sortOf(v) == CAUGHT) {
                return putIn(bound, types.secondOf(v), PART_LEVELS);
            }
            return bound;
        }

        /** A TYPE in the words of home's CLASS, with home's ARGUMENTS put in for PARAMETERS. */
        int putIn(int t, int home, int level) {
            if (level <= 0) {
                return NONE;
            }
            if (types.sortOf(home) != OF || !types.mentions(t, types.ownerOf(home))) {
                return t;
            }
            switch (types.sortOf(t)) {
                case VARIABLE:
                    return types.argument(home, types.firstOf(t));
                case ROW:
                    return types.formRow(putIn(types.firstOf(t), home, level - 1));
                case OF:
                    return putIntoArguments(t, home, level - 1);
                default:
                    return t;
            }
        }

        private int putIntoArguments(int t, int home, int level) {
            int a = putIn(types.firstOf(t), home, level);
            if (a == NONE) {
                return NONE;
            }
            if (types.secondOf(t) == NONE) {
                return types.form(OF, types.ownerOf(t), a, NONE);
            }
            int b = putIn(types.secondOf(t), home, level);
            return b == NONE ? NONE : types.form(OF, types.ownerOf(t), a, b);
        }

        /** The TYPE with new VARIABLES for WILD ARGUMENTS, or itself if it has none. */
        int caught(int t) {
            if (!types.hasWildArgument(t)) {
                return t;
            }
            int a = caughtArgument(t, 0);
            int b = caughtArgument(t, 1);
            if (a == NONE || b == NONE && types.secondOf(t) != NONE) {
                return NONE;
            }
            int home = types.form(OF, types.ownerOf(t), a, b);
            if (types.sortOf(types.firstOf(t)) == WILD) {
                types.setHome(a, home);
            }
            if (types.sortOf(types.secondOf(t)) == WILD) {
                types.setHome(b, home);
            }
            return home;
        }

        private int caughtArgument(int t, int i) {
            int argument = types.argument(t, i);
            if (types.sortOf(argument) != WILD) {
                return argument;
            }
            return types.formCaught(types.ownerOf(t), i, argument);
        }

        /** AS d of a TYPE of a CLASS BELOW d. */
        int viewedAs(int type, int d) {
            if (d == 0) {
                return OBJECT;
            }
            int t = caught(type);
            for (int step = 0; step < Classes.MOST; step++) {
                int c = types.ownerOf(t);
                if (!types.isOfClass(t) || c == d) {
                    return t;
                }
                t = superOf(t, classes.slotTowards(c, d, 0));
            }
            return NONE;
        }

        private int superOf(int t, int slot) {
            int c = types.ownerOf(t);
            if (types.sortOf(t) == BARE) {
                int parent = classes.superClass(c, slot);
                return parent == NONE ? NONE : nameAlone(parent);
            }
            return putIn(classes.superType(c, slot), t, PART_LEVELS);
        }

        private int nameAlone(int c) {
            return types.form(classes.nameSort(c), c, NONE, NONE);
        }

        /** Whether some AS d of some CLASS hangs on which of its SUPERS is taken. */
        boolean clashes() {
            for (int c = 1; c < classes.count; c++) {
                for (int d = 1; d < c; d++) {
                    if (clashesAt(c, d)) {
                        return true;
                    }
                }
            }
            return false;
        }

        private boolean clashesAt(int c, int d) {
            int mark = types.mark();
            int one = NONE;
            boolean differs = false;
            for (int slot = 0; slot < Classes.SLOTS; slot++) {
                if (classes.slotTowards(c, d, slot) == slot) {
                    int other = viewedAs(classes.superType(c, slot), d);
                    differs = differs || one != NONE && one != other;
                    one = other;
                }
            }
            types.dropTo(mark);
            return differs;
        }
    }

    /** IS and UNCHECKED, and BOUNDS that are kept. */
    private static final class Order {
        private final Classes classes;
        private final Types types;
        private final Shapes shapes;

        Order(Classes classes, Types types, Shapes shapes) {
            this.classes = classes;
            this.types = types;
            this.shapes = shapes;
        }

        boolean isOne(int s, int t, int level) {
            if (level <= 0 || s < 0 || t < 0) {
                return false;
            }
            if (s == t) {
                return true;
            }
            if (s == INT || t == INT) {
                return false;
            }
            if (s == NULL || t == OBJECT) {
                return true;
            }
            int mark = types.mark();
            boolean yes = isByParts(s, t, level - 1);
            types.dropTo(mark);
            return yes;
        }

        private boolean isByParts(int s, int t, int level) {
            if (types.isVariable(s) && someBoundIs(s, t, level)) {
                return true;
            }
            if (types.lowOf(t) != NONE && isOne(s, types.lowOf(t), level)) {
                return true;
            }
            if (types.sortOf(s) == ROW && types.sortOf(t) == ROW) {
                return isOne(types.firstOf(s), types.firstOf(t), level);
            }
            return types.isOfClass(s) && types.isOfClass(t) && isByClass(s, t, level);
        }

        private boolean someBoundIs(int s, int t, int level) {
            int bounds = shapes.boundCountOf(s);
            for (int place = 0; place < bounds; place++) {
                if (isOne(shapes.boundOf(s, place), t, level)) {
                    return true;
                }
            }
            return false;
        }

        private boolean isByClass(int s, int t, int level) {
            int d = types.ownerOf(t);
            if (!classes.isUnder(types.ownerOf(s), d)) {
                return false;
            }
            if (types.sortOf(t) != OF) {
                return true;
            }
            int view = shapes.viewedAs(s, d);
            if (types.sortOf(view) != OF) {
                return false;
            }
            return isIn(types.firstOf(view), types.firstOf(t), level)
                    && isIn(types.secondOf(view), types.secondOf(t), level);
        }

        /** Whether an ARGUMENT is IN another one; at a place without PARAMETER both are NONE. */
        private boolean isIn(int argument, int other, int level) {
            if (argument == other) {
                return true;
            }
            if (types.sortOf(other) != WILD) {
                return false;
            }
            switch (types.ownerOf(other)) {
                case UP_TO:
                    return isOne(argument, types.firstOf(other), level);
                case DOWN_TO:
                    return isOne(types.firstOf(other), argument, level);
                default:
                    return true;
            }
        }

        boolean isUnchecked(int s, int t, int level) {
            if (level <= 0 || types.sortOf(t) != OF) {
                return false;
            }
            if (types.isVariable(s)) {
                return someBoundIsUnchecked(s, t, level - 1);
            }
            int d = types.ownerOf(t);
            return types.isOfClass(s) && classes.isUnder(types.ownerOf(s), d)
                    && types.sortOf(shapes.viewedAs(s, d)) == BARE;
        }

        private boolean someBoundIsUnchecked(int s, int t, int level) {
            int bounds = shapes.boundCountOf(s);
            for (int place = 0; place < bounds; place++) {
                if (isUnchecked(shapes.boundOf(s, place), t, level)) {
                    return true;
                }
            }
            return false;
        }

        /** Whether each ARGUMENT that is not WILD IS each BOUND of its PARAMETER. */
        boolean keepsBounds(int t) {
            int c = types.ownerOf(t);
            int home = shapes.caught(t);
            for (int i = 0; i < classes.parametersOf(c); i++) {
                boolean wild = types.sortOf(types.argument(t, i)) == WILD;
                if (!wild && !keepsBoundsAt(home, i)) {
                    return false;
                }
            }
            return true;
        }

        private boolean keepsBoundsAt(int home, int i) {
            int c = types.ownerOf(home);
            int bounds = classes.boundCount(c, i);
            for (int place = 0; place < bounds; place++) {
                int bound = shapes.putIn(classes.boundAt(c, i, place), home, Shapes.PART_LEVELS);
                if (!isOne(types.argument(home, i), bound, LEVELS)) {
                    return false;
                }
            }
            return true;
        }
    }

    /** MAY, and ARGUMENTS that DIFFER. */
    private static final class Turning {
        private final Classes classes;
        private final Types types;
        private final Shapes shapes;
        private final Order order;

        Turning(Classes classes, Types types, Shapes shapes, Order order) {
            this.classes = classes;
            this.types = types;
            this.shapes = shapes;
            this.order = order;
        }

        boolean mayTurn(int s, int t, int level) {
            if (level <= 0) {
                return false;
            }
            if (isEitherWay(s, t, level - 1)) {
                return true;
            }
            if (s == INT || t == INT) {
                return false;
            }
            if (types.isVariable(s)) {
                return mayFromBounds(s, t, level - 1);
            }
            if (types.isVariable(t)) {
                return mayIntoBounds(s, t, level - 1);
            }
            if (types.sortOf(s) == ROW && types.sortOf(t) == ROW) {
                return mayTurn(types.firstOf(s), types.firstOf(t), level - 1);
            }
            return types.isOfClass(s) && types.isOfClass(t) && mayByClass(s, t);
        }

        private boolean isEitherWay(int s, int t, int level) {
            return order.isOne(s, t, level) || order.isOne(t, s, level);
        }

        private boolean mayFromBounds(int s, int t, int level) {
            int bounds = shapes.boundCountOf(s);
            for (int place = 0; place < bounds; place++) {
                if (!mayTurn(shapes.boundOf(s, place), t, level)) {
                    return false;
                }
            }
            return true;
        }

        private boolean mayIntoBounds(int s, int t, int level) {
            int bounds = shapes.boundCountOf(t);
            for (int place = 0; place < bounds; place++) {
                if (!mayTurn(s, shapes.boundOf(t, place), level)) {
                    return false;
                }
            }
            return true;
        }

        private boolean mayByClass(int s, int t) {
            int c = types.ownerOf(s);
            int d = types.ownerOf(t);
            if (classes.areApart(c, d)) {
                return false;
            }
            for (int g = 0; g < classes.count; g++) {
                if (classes.isUnder(c, g) && classes.isUnder(d, g) && viewsDiffer(s, t, g)) {
                    return false;
                }
            }
            return true;
        }

        private boolean viewsDiffer(int s, int t, int g) {
            int mark = types.mark();
            int one = shapes.viewedAs(s, g);
            int other = shapes.viewedAs(t, g);
            boolean differ = false;
            if (types.sortOf(one) == OF && types.sortOf(other) == OF) {
                differ = argumentsDiffer(types.firstOf(one), types.firstOf(other))
                        || argumentsDiffer(types.secondOf(one), types.secondOf(other));
            }
            types.dropTo(mark);
            return differ;
        }

        private boolean argumentsDiffer(int a, int b) {
            if (a == b) {
                return false;
            }
            if (!types.isVariable(a) && !types.isVariable(b)) {
                return true;
            }
            for (int i = 0; i < facetCount(a); i++) {
                for (int k = 0; k < facetCount(b); k++) {
                    if (!isEitherWay(facet(a, i), facet(b, k), LEVELS)) {
                        return true;
                    }
                }
            }
            return false;
        }

        /** What stands for an ARGUMENT when it is told from another: BOUNDS, or itself. */
        private int facetCount(int t) {
            return types.isVariable(t) ? shapes.boundCountOf(t) : 1;
        }

        private int facet(int t, int place) {
            int whole = types.isVariable(t) ? shapes.boundOf(t, place) : t;
            return shapes.erasure(whole, Shapes.PART_LEVELS);
        }
    }
}
