import java.util.Arrays;

/**
 * A photographer of graphs: CLASSES made as they are asked for, THINGS of them, PICTURES of what ROOTS reach,
 * EDITS between two PICTURES, and merges of three. The words in capitals are those of the document.
 */
public final class GraphPhotographer {
    public static final int NONE = -1, UNKNOWN = -101, OUTSIDE = -102, STATE = -103, FULL = -104, CONFLICTS = -105;

    private static final int NULL = 1, INDEX = 2, SIZE = 3, STORE = 4, UNLIKE = 5, CAST = 6, SEALED = 7, MISFIT = 8;
    private static final int MOST_THINGS = 300, MOST_LENGTH = 16, MOST_INNER = 8, MOST_ROOTS = 6;
    private static final int HASH_DEPTH = 3, DIGITS_OF_A_WAY = 8;

    private final ClassTable classes = new ClassTable();
    private final ThingTable things = new ThingTable(classes);
    private final Reach reach = new Reach(things);
    private final Likeness likeness = new Likeness(things);
    private final Copier copier = new Copier(things);
    private final Album album = new Album(things);
    private final EditList edits = new EditList(things);
    private final Merger merger = new Merger(things);
    private final int[] roots = new int[MOST_ROOTS];
    private final long[] taken = new long[MOST_LENGTH];
    private final int[] findingCounts = new int[MISFIT + 1];
    private int latestFinding;
    private int latestMisfit = NONE;
    private long lastSeen;

    public GraphPhotographer() {
        Arrays.fill(roots, NONE);
    }

    // ---- classes

    public int face() {
        return classes.addFace();
    }

    public int kind(int faces) {
        return classes.areFaces(faces) ? classes.addKind(faces) : OUTSIDE;
    }

    public int component(int k, int c) {
        if (!classes.isKind(k) || !classes.isKnown(c)) return UNKNOWN;
        return classes.isClosed(k) ? STATE : classes.addComponent(k, c);
    }

    public int close(int k) {
        if (!classes.isKind(k)) return UNKNOWN;
        if (classes.isClosed(k)) return STATE;
        classes.shut(k);
        return classes.componentCount(k);
    }

    public int rowOf(int c) {
        if (!classes.isKnown(c)) return UNKNOWN;
        return classes.nestingOf(c) >= ClassTable.MOST_NESTED ? OUTSIDE : classes.rowWith(c);
    }

    public int about(int c, int what) {
        if (!classes.isKnown(c)) return UNKNOWN;
        if (what < 0 || what > 4 + ClassTable.MOST_COMPONENTS) return OUTSIDE;
        switch (what) {
            case 0: return classes.sortOf(c);
            case 1: return classes.elementOf(c);
            case 2: return classes.nestingOf(c);
            case 3: return classes.componentCount(c);
            case 4: return classes.facesOf(c);
            default: return classes.componentOf(c, what - 5);
        }
    }

    public int is(int a, int b) {
        if (!classes.isKnown(a) || !classes.isKnown(b)) return UNKNOWN;
        return classes.fits(a, b) ? 1 : 0;
    }

    // ---- things

    public int make(int c, int n) {
        if (!classes.isKnown(c)) return UNKNOWN;
        if (!classes.isRow(c) || n > MOST_LENGTH) return OUTSIDE;
        if (!things.hasRoomFor(1)) return FULL;
        return n < 0 ? found(SIZE) : things.add(c, n);
    }

    public int multi(int c, int a, int b) {
        if (!classes.isKnown(c)) return UNKNOWN;
        int inner = classes.elementOf(c);
        if (!classes.isRow(inner) || a > MOST_INNER || b > MOST_INNER) return OUTSIDE;
        if (!things.hasRoomFor(1 + Math.max(a, 0))) return FULL;
        if (a < 0 || b < 0) return found(SIZE);
        int outer = things.add(c, a);
        for (int i = 0; i < a; i++) {
            things.write(outer, i, things.add(inner, b));
        }
        return outer;
    }

    public int record(int k) {
        if (!classes.isKnown(k)) return UNKNOWN;
        if (!classes.isKind(k)) return OUTSIDE;
        if (!classes.isClosed(k)) return STATE;
        return things.hasRoomFor(1) ? things.add(k, classes.componentCount(k)) : FULL;
    }

    public int box(int k, long word) {
        if (!Words.isTaken(k, word)) return OUTSIDE;
        return things.boxWith(ClassTable.FIRST_BOX + k, Words.told(k, word));
    }

    public int seal(int x) {
        if (!things.isThere(x)) return UNKNOWN;
        if (!things.isRecord(x)) return found(CAST);
        if (things.isLocked(x)) return found(SEALED);
        things.lock(x);
        return 0;
    }

    public int get(int x, int i) {
        if (!isThingOrNone(x)) return UNKNOWN;
        if (x == NONE) return found(NULL);
        if (!things.hasPlace(x, i)) return found(INDEX);
        lastSeen = things.valueAt(x, i);
        return things.isLink(x, i) ? 1 : 0;
    }

    public int put(int x, int i, int k, long word) {
        if (!isThingOrNone(x)) return UNKNOWN;
        if (!Words.isTaken(k, word)) return OUTSIDE;
        int barrier = barrierAt(x, i);
        return barrier == 0 ? putWidened(x, i, k, Words.told(k, word)) : found(barrier);
    }

    public int set(int x, int i, int y) {
        if (!isThingOrNone(x) || !isThingOrNone(y)) return UNKNOWN;
        int barrier = barrierAt(x, i);
        if (barrier != 0) return found(barrier);
        if (!things.isLink(x, i)) return putBoxed(x, i, y);
        if (!things.canHold(x, i, y)) return found(STORE);
        things.write(x, i, y);
        return 0;
    }

    public int copy(int x, int i, int y, int j, int n) {
        if (!isThingOrNone(x) || !isThingOrNone(y)) return UNKNOWN;
        if (x == NONE || y == NONE) return found(NULL);
        if (!things.isRow(x) || !things.isRow(y)) return found(CAST);
        int from = classes.elementOf(things.classNumber(x));
        int to = classes.elementOf(things.classNumber(y));
        boolean plain = !classes.isReference(from) || !classes.isReference(to);
        if (plain && from != to) return found(STORE);
        if (!isStretch(x, i, n) || !isStretch(y, j, n)) return found(INDEX);
        takeAhead(x, i, n);
        int came = bringTaken(y, j, n);
        lastSeen = came;
        return came < n ? found(STORE) : 0;
    }

    public int length(int x) {
        if (!isThingOrNone(x)) return UNKNOWN;
        return x == NONE ? found(NULL) : things.lengthOf(x);
    }

    public int classOf(int x) {
        if (!isThingOrNone(x)) return UNKNOWN;
        return x == NONE ? found(NULL) : things.classNumber(x);
    }

    public int sealed(int x) {
        if (!isThingOrNone(x)) return UNKNOWN;
        if (x == NONE) return found(NULL);
        return things.isLocked(x) ? 1 : 0;
    }

    public int shallow(int x) {
        if (!isThingOrNone(x)) return UNKNOWN;
        if (x == NONE) return found(NULL);
        if (!things.isRow(x)) return x;
        if (!things.hasRoomFor(1)) return FULL;
        int made = things.add(things.classNumber(x), things.lengthOf(x));
        for (int i = 0; i < things.lengthOf(x); i++) {
            things.write(made, i, things.valueAt(x, i));
        }
        return made;
    }

    public int deep(int x) {
        if (!isThingOrNone(x)) return UNKNOWN;
        if (x == NONE) return found(NULL);
        reach.begin();
        reach.add(x);
        reach.spread();
        return copier.copyReached(reach, x);
    }

    public long seen() {
        return lastSeen;
    }

    // ---- likeness

    public int like(int x, int y) {
        if (!isThingOrNone(x) || !isThingOrNone(y)) return UNKNOWN;
        if (x == NONE || y == NONE) return found(NULL);
        reach.begin();
        reach.add(x);
        reach.add(y);
        reach.spread();
        likeness.part(reach);
        return likeness.blockOf(x) == likeness.blockOf(y) ? 1 : 0;
    }

    public int hash(int x) {
        if (!isThingOrNone(x)) return UNKNOWN;
        if (x == NONE) return found(NULL);
        lastSeen = hashAt(things, x, HASH_DEPTH);
        return 0;
    }

    public int least(int x) {
        if (!isThingOrNone(x)) return UNKNOWN;
        if (x == NONE) return found(NULL);
        reachAll();
        likeness.part(reach);
        for (int y = 0; y < x; y++) {
            if (things.isThere(y) && likeness.blockOf(y) == likeness.blockOf(x)) return y;
        }
        return x;
    }

    public int groups() {
        reachAll();
        return likeness.part(reach);
    }

    // ---- roots

    public int name(int r, int x) {
        if (!isRoot(r) || !isThingOrNone(x)) return UNKNOWN;
        int before = roots[r];
        roots[r] = x;
        return before;
    }

    public int root(int r) {
        return isRoot(r) ? roots[r] : UNKNOWN;
    }

    public int path(int r, int way) {
        if (!isRoot(r)) return UNKNOWN;
        int x = roots[r];
        int rest = way;
        for (int digit = 0; digit < DIGITS_OF_A_WAY; digit++) {
            int place = (rest & 15) - 1;
            if (place < 0) return x;
            if (x == NONE) return found(NULL);
            if (!things.hasPlace(x, place)) return found(INDEX);
            if (!things.isLink(x, place)) return found(UNLIKE);
            x = (int) things.valueAt(x, place);
            rest >>>= 4;
        }
        return x;
    }

    public int sweep() {
        reachFromRoots();
        for (int x = 0; x < things.madeCount(); x++) {
            if (things.isThere(x) && things.isRecord(x) && !things.isLocked(x)) reach.add(x);
        }
        reach.spread();
        int gone = 0;
        for (int x = 0; x < things.madeCount(); x++) {
            if (things.isThere(x) && !reach.hasMet(x)) {
                things.drop(x);
                gone++;
            }
        }
        return gone;
    }

    // ---- pictures

    public int photo() {
        if (album.isFull()) return FULL;
        reachFromRoots();
        Picture draft = album.blankDraft();
        for (int at = 0; at < reach.size(); at++) {
            draft.takeThing(reach.at(at));
        }
        for (int r = 0; r < MOST_ROOTS; r++) {
            draft.setRoot(r, roots[r]);
        }
        return album.keepDraft();
    }

    public int picture(int p, int what) {
        Picture picture = album.at(p);
        if (picture == null) return UNKNOWN;
        if (what < 0 || what > 1 + MOST_ROOTS) return OUTSIDE;
        return what < 2 ? picture.entryCount(what == 1) : picture.rootAt(what - 2);
    }

    public int entry(int p, int x, int what) {
        Picture picture = album.at(p);
        if (picture == null) return UNKNOWN;
        if (what < 0) return OUTSIDE;
        if (!picture.has(x)) return NONE;
        if (what == 0) return things.classNumber(x);
        if (what == 1) return things.lengthOf(x);
        if (what == 2) return picture.isLocked(x) ? 1 : 0;
        int place = what - 3;
        if (!things.hasPlace(x, place)) return found(INDEX);
        lastSeen = picture.valueAt(x, place);
        return things.isLink(x, place) ? 1 : 0;
    }

    public int differ(int p, int q) {
        Picture from = album.at(p);
        Picture to = album.at(q);
        return from == null || to == null ? UNKNOWN : edits.tell(from, to);
    }

    public long edit(int k, int what) {
        return edits.numberAt(k, what);
    }

    public int lay(int p) {
        Picture picture = album.at(p);
        if (picture == null) return UNKNOWN;
        if (!edits.areTold()) return STATE;
        if (album.isFull()) return FULL;
        Picture draft = album.blankDraft();
        draft.takeAll(picture);
        int stuck = edits.layOn(draft);
        if (stuck == NONE) return album.keepDraft();
        latestMisfit = stuck;
        return found(MISFIT);
    }

    public int misfit() {
        return latestMisfit;
    }

    public int merge(int b, int p, int q) {
        Picture base = album.at(b);
        Picture one = album.at(p);
        Picture other = album.at(q);
        if (base == null || one == null || other == null) return UNKNOWN;
        if (album.isFull()) return FULL;
        return merger.unite(base, one, other, album.blankDraft()) ? album.keepDraft() : CONFLICTS;
    }

    public int conflict(int k, int what) {
        return k == -1 ? merger.conflictCount() : merger.numberAt(k, what);
    }

    public int restore(int p) {
        Picture picture = album.at(p);
        return picture == null ? UNKNOWN : copier.bringBack(picture, roots);
    }

    // ---- what is told

    public int finding() {
        return latestFinding;
    }

    public int findings(int f) {
        return f < NULL || f > MISFIT ? OUTSIDE : findingCounts[f];
    }

    public int count(int what) {
        switch (what) {
            case 0: return classes.madeCount();
            case 1: return things.madeCount();
            case 2: return things.thereCount();
            case 3: return album.size();
            case 4: return edits.size();
            case 5: return classes.faceCount();
            default: return OUTSIDE;
        }
    }

    public long digest() {
        long h = 29;
        for (int x = 0; x < things.madeCount(); x++) {
            if (things.isThere(x)) h = digestThing(h, x);
        }
        for (int r = 0; r < MOST_ROOTS; r++) {
            h = 31 * h + roots[r];
        }
        return 31 * h + album.size();
    }

    // ---- what the calls share

    private int found(int finding) {
        latestFinding = finding;
        if (finding >= NULL && finding <= MISFIT) findingCounts[finding]++;
        return -10 - finding;
    }

    private boolean isThingOrNone(int x) {
        return x == NONE || things.isThere(x);
    }

    private static boolean isRoot(int r) {
        return r >= 0 && r < MOST_ROOTS;
    }

    /** The FINDING that any write to ELEMENT i of x meets, whatever is written; 0 if there is none. */
    private int barrierAt(int x, int i) {
        if (x == NONE) return NULL;
        if (things.isBox(x)) return CAST;
        if (things.isLocked(x)) return SEALED;
        return things.hasPlace(x, i) ? 0 : INDEX;
    }

    private int putWidened(int x, int i, int k, long word) {
        int to = things.placeClass(x, i);
        if (!Words.widens(k, to)) return found(UNLIKE);
        things.write(x, i, Words.widened(word, k, to));
        return 0;
    }

    private int putBoxed(int x, int i, int y) {
        if (y == NONE) return found(NULL);
        if (!things.isBox(y)) return found(UNLIKE);
        return putWidened(x, i, things.classNumber(y) - ClassTable.FIRST_BOX, things.valueAt(y, 0));
    }

    private boolean isStretch(int x, int i, int n) {
        return i >= 0 && n >= 0 && (long) i + n <= things.lengthOf(x);
    }

    private void takeAhead(int x, int i, int n) {
        for (int at = 0; at < n && at < MOST_LENGTH; at++) {
            taken[at] = things.valueAt(x, i + at);
        }
    }

    private int bringTaken(int y, int j, int n) {
        for (int at = 0; at < n && at < MOST_LENGTH; at++) {
            if (things.isLink(y, j + at) && !things.canHold(y, j + at, taken[at])) return at;
            things.write(y, j + at, taken[at]);
        }
        return n;
    }

    private static long hashAt(ThingTable things, int x, int depth) {
        if (depth <= 0) return things.classNumber(x);
        long h = 31 * 17 + things.classNumber(x);
        h = 31 * h + things.lengthOf(x);
        for (int i = 0; i < things.lengthOf(x); i++) {
            long value = things.valueAt(x, i);
            boolean isThing = value != NONE && things.isLink(x, i);
            h = 31 * h + (isThing ? hashAt(things, (int) value, depth - 1) : value);
        }
        return h;
    }

    private long digestThing(long before, int x) {
        long h = 31 * before + x;
        h = 31 * h + things.classNumber(x);
        h = 31 * h + (things.isLocked(x) ? 1 : 0);
        for (int i = 0; i < things.lengthOf(x); i++) {
            h = 31 * h + things.valueAt(x, i);
        }
        return h;
    }

    private void reachFromRoots() {
        reach.begin();
        for (int r = 0; r < MOST_ROOTS; r++) {
            reach.add(roots[r]);
        }
        reach.spread();
    }

    private void reachAll() {
        reach.begin();
        for (int x = 0; x < things.madeCount(); x++) {
            reach.add(x);
        }
    }

    /** The CLASSES: their sorts, and what each is made of. */
    private static final class ClassTable {
        static final int FIRST_BOX = 10, MOST_COMPONENTS = 6, MOST_NESTED = 4;
        private static final int PLAIN = 0, ANY = 1, BOX = 2, FACE = 3, KIND = 4, ROW = 5;
        private static final int PLAIN_COUNT = 8, ANY_CLASS = 8, FIRST_MADE = 20, END = 60, MOST_FACES = 8;

        /** NONE: there is no such CLASS. */
        private final int[] sorts = new int[END];
        private final int[] elements = new int[END];
        private final int[] nestings = new int[END];
        /** Of a KIND those of its FACES, of a FACE its own. */
        private final int[] faceBits = new int[END];
        private final int[] componentCounts = new int[END];
        private final int[] components = new int[END * MOST_COMPONENTS];
        private final boolean[] closed = new boolean[END];
        private int end = FIRST_MADE;
        private int faces;

        ClassTable() {
            Arrays.fill(sorts, NONE);
            Arrays.fill(elements, NONE);
            for (int k = 0; k < PLAIN_COUNT; k++) {
                sorts[k] = PLAIN;
                sorts[FIRST_BOX + k] = BOX;
            }
            sorts[ANY_CLASS] = ANY;
        }

        int madeCount() {
            return end - FIRST_MADE;
        }

        int faceCount() {
            return faces;
        }

        int sortOf(int c) {
            return c >= 0 && c < END ? sorts[c] : NONE;
        }

        boolean isKnown(int c) {
            return sortOf(c) != NONE;
        }

        boolean isReference(int c) {
            return sortOf(c) > PLAIN;
        }

        boolean isBox(int c) {
            return sortOf(c) == BOX;
        }

        boolean isKind(int c) {
            return sortOf(c) == KIND;
        }

        boolean isRow(int c) {
            return sortOf(c) == ROW;
        }

        boolean isClosed(int k) {
            return isKind(k) && closed[k];
        }

        void shut(int k) {
            if (isKind(k)) closed[k] = true;
        }

        int elementOf(int c) {
            return c >= 0 && c < END ? elements[c] : NONE;
        }

        int nestingOf(int c) {
            return c >= 0 && c < END ? nestings[c] : 0;
        }

        int componentCount(int c) {
            return c >= 0 && c < END ? componentCounts[c] : 0;
        }

        int componentOf(int c, int i) {
            boolean isOne = c >= 0 && c < END && i >= 0 && i < componentCounts[c] && i < MOST_COMPONENTS;
            return isOne ? components[c * MOST_COMPONENTS + i] : NONE;
        }

        int facesOf(int c) {
            return c >= 0 && c < END && sorts[c] == KIND ? faceBits[c] : 0;
        }

        /** The CLASS of what stands at a place of a THING of a CLASS. */
        int placeClass(int c, int i) {
            switch (sortOf(c)) {
                case BOX: return c - FIRST_BOX;
                case KIND: return componentOf(c, i);
                case ROW: return elementOf(c);
                default: return NONE;
            }
        }

        boolean areFaces(int bits) {
            return bits >>> faces == 0;
        }

        int addFace() {
            if (faces >= MOST_FACES || end >= END) return FULL;
            faceBits[end] = 1 << faces;
            faces++;
            return addClass(FACE);
        }

        int addKind(int bits) {
            if (end >= END) return FULL;
            faceBits[end] = bits;
            return addClass(KIND);
        }

        /** The ROW that there is, or a new one. */
        int rowWith(int element) {
            for (int c = FIRST_MADE; c < end && c < END; c++) {
                if (sorts[c] == ROW && elements[c] == element) return c;
            }
            if (end >= END) return FULL;
            elements[end] = element;
            nestings[end] = nestingOf(element) + 1;
            return addClass(ROW);
        }

        private int addClass(int sort) {
            if (end >= END) return FULL;
            sorts[end] = sort;
            end++;
            return end - 1;
        }

        int addComponent(int k, int c) {
            if (!isKind(k) || componentCounts[k] >= MOST_COMPONENTS) return FULL;
            components[k * MOST_COMPONENTS + componentCounts[k]] = c;
            componentCounts[k]++;
            return componentCounts[k];
        }

        /** Whether CLASS a IS CLASS b. Of two ROWS their ELEMENTS' CLASSES decide, which takes a level a ROW. */
        boolean fits(int a, int b) {
            int one = a;
            int other = b;
            for (int level = 0; level <= MOST_NESTED; level++) {
                if (one == other) return true;
                if (other == ANY_CLASS) return isReference(one);
                if (isKind(one)) return hasFace(one, other);
                if (!isRow(one) || !isRow(other)) return false;
                one = elementOf(one);
                other = elementOf(other);
            }
            return false;
        }

        private boolean hasFace(int kind, int c) {
            return sortOf(c) == FACE && (facesOf(kind) & faceBits[c]) != 0;
        }
    }

    /** WORDS and WIDENING, on the bits alone. */
    private static final class Words {
        private static final int TRUTH = 0, BYTE = 1, CHAR = 2, SHORT = 3, INT = 4, LONG = 5, FLOAT = 6, DOUBLE = 7;
        private static final int FLOAT_FRACTION = 23, FLOAT_BIAS = 127, DOUBLE_FRACTION = 52, DOUBLE_BIAS = 1023;
        private static final long FLOAT_INFINITY = 0x7f800000L, DOUBLE_INFINITY = 0x7ff0000000000000L;
        private static final long FLOAT_SIGN = 0x80000000L, SIGN = 0x8000000000000000L;
        /** The least float above 0 is 2 to the power of this. */
        private static final int LEAST_FLOAT_POWER = -149;

        /** Whether k is PLAIN and the WORD tells a number of it. */
        static boolean isTaken(int k, long word) {
            if (k == FLOAT) return (word & (FLOAT_SIGN - 1)) <= FLOAT_INFINITY;
            if (k == DOUBLE) return (word & ~SIGN) <= DOUBLE_INFINITY;
            return k >= TRUTH && k < FLOAT;
        }

        static long told(int k, long word) {
            switch (k) {
                case TRUTH: return word & 1;
                case BYTE: return (byte) word;
                case CHAR: return (char) word;
                case SHORT: return (short) word;
                case INT:
                case FLOAT: return (int) word;
                default: return word;
            }
        }

        /** Whether BOXES of this WORD are one and the same THING. */
        static boolean isShared(int k, long word) {
            if (k == TRUTH || k == BYTE) return true;
            return k >= CHAR && k <= LONG && word >= -128 && word <= 127;
        }

        static boolean widens(int from, int to) {
            if (from < TRUTH || from > DOUBLE || to < TRUTH || to > DOUBLE) return false;
            if (from == to) return true;
            // neither byte to char nor char to short is WIDENING
            int least = from <= CHAR ? from + 2 : from + 1;
            return from != TRUTH && to >= least;
        }

        static long widened(long word, int from, int to) {
            if (from == to || to < FLOAT) return word;
            if (from == FLOAT) return doubleOfFloat(word);
            if (to == DOUBLE) return rounded(word, DOUBLE_FRACTION, DOUBLE_BIAS) | (word & SIGN);
            long size = rounded(word, FLOAT_FRACTION, FLOAT_BIAS);
            return word < 0 ? (int) (size | FLOAT_SIGN) : size;
        }

        /** The place of the highest bit; 0 if there is none. */
        private static int topBit(long bits) {
            for (int top = 63; top > 0; top--) {
                if (bits >>> top != 0) return top;
            }
            return 0;
        }

        /** Bits, without the sign, of the binary fraction nearest to a whole number; of two the even one. */
        private static long rounded(long whole, int fraction, int bias) {
            if (whole == 0) return 0;
            long size = whole < 0 ? -whole : whole;
            int top = topBit(size);
            long digits = top <= fraction ? size << (fraction - top) : nearest(size, top - fraction);
            // the highest digit adds 1 to the exponent, and so does a carry out of rounding
            return ((long) (top + bias - 1) << fraction) + digits;
        }

        private static long nearest(long size, int shift) {
            long digits = size >>> shift;
            long rest = size & ((1L << shift) - 1);
            long half = 1L << (shift - 1);
            boolean up = rest > half || rest == half && (digits & 1) == 1;
            return up ? digits + 1 : digits;
        }

        private static long doubleOfFloat(long word) {
            long sign = word & SIGN;
            long size = word & (FLOAT_SIGN - 1);
            if (size == 0) return sign;
            if (size == FLOAT_INFINITY) return sign | DOUBLE_INFINITY;
            long exponent = size >>> FLOAT_FRACTION;
            if (exponent == 0) return sign | doubleOfTiny(size);
            int wider = DOUBLE_FRACTION - FLOAT_FRACTION;
            return sign | ((size << wider) + ((long) (DOUBLE_BIAS - FLOAT_BIAS) << DOUBLE_FRACTION));
        }

        /** Floats without a leading 1 have one as doubles. */
        private static long doubleOfTiny(long digits) {
            int top = topBit(digits);
            long exponent = top + LEAST_FLOAT_POWER + DOUBLE_BIAS - 1;
            return (exponent << DOUBLE_FRACTION) + (digits << (DOUBLE_FRACTION - top));
        }
    }

    /** All THINGS ever made. Those GONE keep their shape, since PICTURES still tell of them. */
    private static final class ThingTable {
        private static final int FIRST_CELLS = 64;

        private final ClassTable classes;
        private final int[] classNumbers = new int[MOST_THINGS];
        private final int[] lengths = new int[MOST_THINGS];
        private final int[] starts = new int[MOST_THINGS];
        /** A bit for each place that holds a THING or NONE. */
        private final int[] links = new int[MOST_THINGS];
        private final boolean[] locked = new boolean[MOST_THINGS];
        private final boolean[] there = new boolean[MOST_THINGS];
        private long[] cells = new long[FIRST_CELLS];
        private int made;
        private int present;
        private int used;

        ThingTable(ClassTable classes) {
            this.classes = classes;
            // so that a number that no THING has yet is of no CLASS
            Arrays.fill(classNumbers, NONE);
        }

        int madeCount() {
            return made;
        }

        int thereCount() {
            return present;
        }

        int usedCells() {
            return used;
        }

        boolean hasRoomFor(int more) {
            return made + more <= MOST_THINGS;
        }

        private static boolean isNumber(int x) {
            return x >= 0 && x < MOST_THINGS;
        }

        boolean isThere(int x) {
            return isNumber(x) && there[x];
        }

        int classNumber(int x) {
            return isNumber(x) ? classNumbers[x] : NONE;
        }

        int lengthOf(int x) {
            return isNumber(x) ? lengths[x] : 0;
        }

        boolean isBox(int x) {
            return classes.isBox(classNumber(x));
        }

        boolean isRecord(int x) {
            return classes.isKind(classNumber(x));
        }

        boolean isRow(int x) {
            return classes.isRow(classNumber(x));
        }

        boolean isLocked(int x) {
            return isNumber(x) && locked[x];
        }

        void lock(int x) {
            if (isNumber(x)) locked[x] = true;
        }

        void drop(int x) {
            if (!isThere(x)) return;
            there[x] = false;
            present--;
        }

        boolean hasPlace(int x, int i) {
            return x >= 0 && x < MOST_THINGS && i >= 0 && i < lengths[x];
        }

        boolean isLink(int x, int i) {
            return x >= 0 && x < MOST_THINGS && i >= 0 && i < lengths[x] && (links[x] >>> i & 1) == 1;
        }

        int placeClass(int x, int i) {
            return classes.placeClass(classNumber(x), i);
        }

        /** What a place has at first. */
        long blankAt(int x, int i) {
            return isLink(x, i) ? NONE : 0;
        }

        /** Where the value of a place stands, here and in every PICTURE; NONE: there is no such place. */
        int cellOf(int x, int i) {
            return x >= 0 && x < MOST_THINGS && i >= 0 && i < lengths[x] ? starts[x] + i : NONE;
        }

        long valueAt(int x, int i) {
            if (x < 0 || x >= MOST_THINGS || i < 0 || i >= lengths[x]) return 0;
            int cell = starts[x] + i;
            return cell >= 0 && cell < cells.length ? cells[cell] : 0;
        }

        void write(int x, int i, long value) {
            int cell = cellOf(x, i);
            if (cell >= 0 && cell < cells.length) cells[cell] = value;
        }

        boolean canHold(int x, int i, long value) {
            return value == NONE || classes.fits(classNumber((int) value), placeClass(x, i));
        }

        /** A new THING with its values as they are at first. FULL: there are all already. */
        int add(int classNumber, int length) {
            if (made >= MOST_THINGS || length < 0 || length > MOST_LENGTH) return FULL;
            makeCells(length);
            int x = made;
            made++;
            present++;
            classNumbers[x] = classNumber;
            lengths[x] = length;
            starts[x] = used;
            used += length;
            there[x] = true;
            links[x] = linksOf(classNumber, length);
            for (int i = 0; i < length; i++) {
                write(x, i, blankAt(x, i));
            }
            return x;
        }

        private int linksOf(int classNumber, int length) {
            int bits = 0;
            for (int i = 0; i < length; i++) {
                if (classes.isReference(classes.placeClass(classNumber, i))) bits |= 1 << i;
            }
            return bits;
        }

        private void makeCells(int more) {
            int wanted = used + more;
            if (wanted > cells.length) cells = Arrays.copyOf(cells, Math.max(wanted, 2 * cells.length));
        }

        /** The BOX there is, if it is one and the same for this WORD, or a new one. FULL: there are all already. */
        int boxWith(int boxClass, long word) {
            int same = sharedBox(boxClass, word);
            if (same != NONE) return same;
            int x = add(boxClass, 1);
            write(x, 0, word);
            return x;
        }

        /** NONE: there is none, or BOXES of this WORD are not one and the same. */
        int sharedBox(int boxClass, long word) {
            if (!Words.isShared(boxClass - ClassTable.FIRST_BOX, word)) return NONE;
            for (int x = 0; x < made && x < MOST_THINGS; x++) {
                if (there[x] && classNumbers[x] == boxClass && valueAt(x, 0) == word) return x;
            }
            return NONE;
        }
    }

    /** THINGS in the order in which a walk along ELEMENTS comes to them. */
    private static final class Reach {
        private final ThingTable things;
        private final int[] met = new int[MOST_THINGS];
        private final boolean[] isMet = new boolean[MOST_THINGS];
        private int size;

        Reach(ThingTable things) {
            this.things = things;
        }

        void begin() {
            for (int at = 0; at < size && at < MOST_THINGS; at++) {
                int x = met[at];
                if (x >= 0 && x < MOST_THINGS) isMet[x] = false;
            }
            size = 0;
        }

        int size() {
            return size;
        }

        int at(int position) {
            return position >= 0 && position < size && position < MOST_THINGS ? met[position] : NONE;
        }

        boolean hasMet(int x) {
            return x >= 0 && x < MOST_THINGS && isMet[x];
        }

        void add(int x) {
            if (!things.isThere(x) || hasMet(x) || x >= MOST_THINGS || size >= MOST_THINGS) return;
            isMet[x] = true;
            met[size] = x;
            size++;
        }

        /** The walk: what it meets on the way stands behind in the same row and gets its turn. */
        void spread() {
            for (int at = 0; at < size && at < MOST_THINGS; at++) {
                addElements(met[at]);
            }
        }

        private void addElements(int x) {
            for (int i = 0; i < things.lengthOf(x); i++) {
                if (things.isLink(x, i)) add((int) things.valueAt(x, i));
            }
        }
    }

    /** Parts THINGS into blocks of like ones: all are one block at first, and rounds split what is told apart. */
    private static final class Likeness {
        private static final int BUCKETS = 512;

        private final ThingTable things;
        private final int[] blocks = new int[MOST_THINGS];
        private final int[] newBlocks = new int[MOST_THINGS];
        /** The first THING of each new block, in chains of those whose numbers mix alike. */
        private final int[] heads = new int[BUCKETS];
        private final int[] nexts = new int[MOST_THINGS];

        Likeness(ThingTable things) {
            this.things = things;
        }

        int blockOf(long x) {
            return x >= 0 && x < MOST_THINGS ? blocks[(int) x] : NONE;
        }

        /** How many blocks there are; what a walk met must hold all that it reaches. */
        int part(Reach reach) {
            for (int at = 0; at < reach.size(); at++) {
                int x = reach.at(at);
                if (x >= 0 && x < MOST_THINGS) blocks[x] = 0;
            }
            int before = 0;
            int now = Math.min(reach.size(), 1);
            for (int round = 0; round <= MOST_THINGS && now != before; round++) {
                before = now;
                now = splitOnce(reach);
            }
            return now;
        }

        private int splitOnce(Reach reach) {
            Arrays.fill(heads, NONE);
            int found = 0;
            for (int at = 0; at < reach.size(); at++) {
                int x = reach.at(at);
                if (x < 0 || x >= MOST_THINGS) continue;
                int bucket = bucketOf(x);
                int twin = twinOf(x, heads[bucket]);
                if (twin >= 0 && twin < MOST_THINGS) {
                    newBlocks[x] = newBlocks[twin];
                } else {
                    newBlocks[x] = found;
                    found++;
                    nexts[x] = heads[bucket];
                    heads[bucket] = x;
                }
            }
            System.arraycopy(newBlocks, 0, blocks, 0, MOST_THINGS);
            return found;
        }

        private int twinOf(int x, int head) {
            int y = head;
            for (int step = 0; step < MOST_THINGS && y >= 0 && y < MOST_THINGS; step++) {
                if (lookSame(x, y)) return y;
                y = nexts[y];
            }
            return NONE;
        }

        private int bucketOf(int x) {
            long mix = things.classNumber(x);
            for (int i = 0; i < things.lengthOf(x); i++) {
                mix = 31 * mix + partAt(x, i);
            }
            mix ^= mix >>> 32;
            return (int) (mix ^ mix >>> 9) & (BUCKETS - 1);
        }

        /** What a round looks at: the WORD, NONE, or the block of the THING. */
        private long partAt(int x, int i) {
            long value = things.valueAt(x, i);
            return value != NONE && things.isLink(x, i) ? blockOf(value) : value;
        }

        private boolean lookSame(int x, int y) {
            if (things.classNumber(x) != things.classNumber(y) || things.lengthOf(x) != things.lengthOf(y)) return false;
            if (things.isLocked(x) != things.isLocked(y)) return false;
            for (int i = 0; i < things.lengthOf(x); i++) {
                if (partAt(x, i) != partAt(y, i)) return false;
            }
            return true;
        }
    }

    /** One PICTURE. Its values stand in the cells in which the THINGS have theirs. */
    private static final class Picture {
        private final ThingTable shapes;
        private final boolean[] there;
        private final boolean[] locked;
        private final long[] cells;
        private final int[] named = new int[MOST_ROOTS];

        Picture(ThingTable shapes) {
            this.shapes = shapes;
            there = new boolean[shapes.madeCount()];
            locked = new boolean[shapes.madeCount()];
            cells = new long[shapes.usedCells()];
        }

        /** Whether all THINGS made by now can have ENTRIES. */
        boolean isRoomy() {
            return there.length >= shapes.madeCount() && cells.length >= shapes.usedCells();
        }

        int numbers() {
            return there.length;
        }

        boolean has(int n) {
            return n >= 0 && n < there.length && there[n];
        }

        boolean isLocked(int n) {
            return has(n) && n < locked.length && locked[n];
        }

        void setLocked(int n, boolean value) {
            if (n >= 0 && n < locked.length) locked[n] = value;
        }

        /** Of a number without an ENTRY: what an ENTRY that COMES has. */
        long valueAt(int n, int i) {
            int cell = has(n) ? shapes.cellOf(n, i) : NONE;
            return cell >= 0 && cell < cells.length ? cells[cell] : shapes.blankAt(n, i);
        }

        void write(int n, int i, long value) {
            int cell = shapes.cellOf(n, i);
            if (cell >= 0 && cell < cells.length) cells[cell] = value;
        }

        int rootAt(int r) {
            return isRoot(r) ? named[r] : NONE;
        }

        void setRoot(int r, int x) {
            if (isRoot(r)) named[r] = x;
        }

        /** How many ENTRIES there are: all, or those of RECORDS. */
        int entryCount(boolean ofRecords) {
            int total = 0;
            for (int n = 0; n < there.length; n++) {
                if (there[n] && (!ofRecords || shapes.isRecord(n))) total++;
            }
            return total;
        }

        void wipe() {
            for (int n = 0; n < there.length; n++) {
                there[n] = false;
            }
            Arrays.fill(named, NONE);
        }

        /** An ENTRY as it COMES. */
        void open(int n) {
            if (n < 0 || n >= there.length) return;
            there[n] = true;
            setLocked(n, false);
            for (int i = 0; i < shapes.lengthOf(n); i++) {
                write(n, i, shapes.blankAt(n, i));
            }
        }

        void drop(int n) {
            if (n >= 0 && n < there.length) there[n] = false;
        }

        void takeThing(int x) {
            open(x);
            setLocked(x, shapes.isLocked(x));
            for (int i = 0; i < shapes.lengthOf(x); i++) {
                write(x, i, shapes.valueAt(x, i));
            }
        }

        void takeEntry(Picture from, int n) {
            if (!from.has(n)) return;
            open(n);
            setLocked(n, from.isLocked(n));
            for (int i = 0; i < shapes.lengthOf(n); i++) {
                write(n, i, from.valueAt(n, i));
            }
        }

        void takeAll(Picture from) {
            for (int n = 0; n < from.numbers(); n++) {
                takeEntry(from, n);
            }
            for (int r = 0; r < MOST_ROOTS; r++) {
                setRoot(r, from.rootAt(r));
            }
        }

        boolean sameEntry(Picture other, int n) {
            if (has(n) != other.has(n) || isLocked(n) != other.isLocked(n)) return false;
            for (int i = 0; i < shapes.lengthOf(n); i++) {
                if (valueAt(n, i) != other.valueAt(n, i)) return false;
            }
            return true;
        }

        /** Whether a value names what has no ENTRY. */
        boolean dangles(int n, int i) {
            long value = valueAt(n, i);
            return has(n) && shapes.isLink(n, i) && value != NONE && !has((int) value);
        }

        boolean rootDangles(int r) {
            return rootAt(r) != NONE && !has(rootAt(r));
        }

        boolean isWhole() {
            for (int n = 0; n < there.length; n++) {
                for (int i = 0; i < shapes.lengthOf(n); i++) {
                    if (dangles(n, i)) return false;
                }
            }
            for (int r = 0; r < MOST_ROOTS; r++) {
                if (rootDangles(r)) return false;
            }
            return true;
        }
    }

    /** The PICTURES, and a draft that becomes one if what is done to it goes. */
    private static final class Album {
        private static final int MOST = 12;

        private final ThingTable things;
        private final Picture[] pictures = new Picture[MOST];
        private int size;
        /** Kept when it became no PICTURE, so that calls that fail leave nothing behind. */
        private Picture draft;

        Album(ThingTable things) {
            this.things = things;
        }

        int size() {
            return size;
        }

        boolean isFull() {
            return size >= MOST;
        }

        /** null: there is no such PICTURE. */
        Picture at(int p) {
            return p >= 0 && p < size && p < MOST ? pictures[p] : null;
        }

        Picture blankDraft() {
            if (draft == null || !draft.isRoomy()) draft = new Picture(things);
            draft.wipe();
            return draft;
        }

        int keepDraft() {
            if (isFull() || draft == null) return FULL;
            pictures[size] = draft;
            draft = null;
            size++;
            return size - 1;
        }
    }

    /** The EDITS. Each is five numbers, as edit() tells them. */
    private static final class EditList {
        private static final int MOST = 900, NUMBERS = 5;
        private static final int COMES = 0, CHANGES = 1, SEALS = 2, ROOT = 3, GOES = 4;

        private final ThingTable shapes;
        private long[] rows = new long[0];
        private int size;
        private boolean told;
        private boolean keeping;
        private int counted;

        EditList(ThingTable shapes) {
            this.shapes = shapes;
        }

        int size() {
            return size;
        }

        boolean areTold() {
            return told;
        }

        long numberAt(int k, int what) {
            if (k < 0 || k >= size || what < 0 || what >= NUMBERS) return 0;
            int at = k * NUMBERS + what;
            return at < rows.length ? rows[at] : 0;
        }

        /** They are counted ahead, so that too many of them leave the earlier ones as they were. */
        int tell(Picture p, Picture q) {
            keeping = false;
            walk(p, q);
            if (counted > MOST) return FULL;
            if (rows.length < counted * NUMBERS) rows = new long[Math.min(2 * counted, MOST) * NUMBERS];
            keeping = true;
            walk(p, q);
            size = counted;
            told = true;
            return size;
        }

        private void walk(Picture p, Picture q) {
            counted = 0;
            for (int n = 0; n < q.numbers(); n++) {
                if (q.has(n) && !p.has(n)) add(COMES, n, shapes.classNumber(n), shapes.lengthOf(n), 0);
            }
            for (int n = 0; n < q.numbers(); n++) {
                if (q.has(n)) addChanges(p, q, n);
            }
            for (int n = 0; n < q.numbers(); n++) {
                if (q.has(n) && p.isLocked(n) != q.isLocked(n)) add(SEALS, n, 0, bit(p.isLocked(n)), bit(q.isLocked(n)));
            }
            for (int r = 0; r < MOST_ROOTS; r++) {
                if (p.rootAt(r) != q.rootAt(r)) add(ROOT, r, 0, p.rootAt(r), q.rootAt(r));
            }
            for (int n = 0; n < p.numbers(); n++) {
                if (p.has(n) && !q.has(n)) add(GOES, n, 0, 0, 0);
            }
        }

        private void addChanges(Picture p, Picture q, int n) {
            for (int i = 0; i < shapes.lengthOf(n); i++) {
                long was = p.valueAt(n, i);
                long becomes = q.valueAt(n, i);
                if (was != becomes) add(CHANGES, n, i, was, becomes);
            }
        }

        private static int bit(boolean truth) {
            return truth ? 1 : 0;
        }

        private void add(int sort, int number, int second, long was, long becomes) {
            int at = counted * NUMBERS;
            counted++;
            if (!keeping || at < 0 || at + NUMBERS > rows.length) return;
            rows[at] = sort;
            rows[at + 1] = number;
            rows[at + 2] = second;
            rows[at + 3] = was;
            rows[at + 4] = becomes;
        }

        /** Which EDIT did not go (how many there are: behind all); NONE if all did. */
        int layOn(Picture draft) {
            for (int k = 0; k < size; k++) {
                if (!goes(k, draft)) return k;
            }
            return draft.isWhole() ? NONE : size;
        }

        private boolean goes(int k, Picture draft) {
            int n = (int) numberAt(k, 1);
            switch ((int) numberAt(k, 0)) {
                case COMES: return comes(n, draft);
                case CHANGES: return changes(k, n, draft);
                case SEALS: return seals(k, n, draft);
                case ROOT: return names(k, n, draft);
                default: return leaves(n, draft);
            }
        }

        private static boolean comes(int n, Picture draft) {
            if (draft.has(n)) return false;
            draft.open(n);
            return true;
        }

        private boolean changes(int k, int n, Picture draft) {
            int place = (int) numberAt(k, 2);
            if (!draft.has(n) || draft.valueAt(n, place) != numberAt(k, 3)) return false;
            draft.write(n, place, numberAt(k, 4));
            return true;
        }

        private boolean seals(int k, int n, Picture draft) {
            if (!draft.has(n) || bit(draft.isLocked(n)) != numberAt(k, 3)) return false;
            draft.setLocked(n, numberAt(k, 4) == 1);
            return true;
        }

        private boolean names(int k, int r, Picture draft) {
            if (draft.rootAt(r) != numberAt(k, 3)) return false;
            draft.setRoot(r, (int) numberAt(k, 4));
            return true;
        }

        private static boolean leaves(int n, Picture draft) {
            if (!draft.has(n)) return false;
            draft.drop(n);
            return true;
        }
    }

    /** Merges by three, and the CONFLICTS of the latest one. */
    private static final class Merger {
        private static final int MOST_TOLD = 60, NUMBERS = 3;
        private static final int OF_ENTRY = 0, OF_SEALED = 1, OF_VALUE = 2, OF_ROOT = 3, OF_NAMES = 4;

        private final ThingTable shapes;
        private final int[] rows = new int[MOST_TOLD * NUMBERS];
        private int conflicts;

        Merger(ThingTable shapes) {
            this.shapes = shapes;
        }

        int conflictCount() {
            return conflicts;
        }

        int numberAt(int k, int what) {
            if (k < 0 || k >= conflicts || k >= MOST_TOLD || what < 0 || what >= NUMBERS) return NONE;
            return rows[k * NUMBERS + what];
        }

        /** Whether there is no CONFLICT, so that the draft is p and q MERGED by b. */
        boolean unite(Picture b, Picture p, Picture q, Picture draft) {
            conflicts = 0;
            for (int n = 0; n < draft.numbers(); n++) {
                uniteEntry(b, p, q, draft, n);
            }
            for (int r = 0; r < MOST_ROOTS; r++) {
                if (clash(b.rootAt(r), p.rootAt(r), q.rootAt(r))) add(OF_ROOT, r, NONE);
                draft.setRoot(r, (int) chosen(b.rootAt(r), p.rootAt(r), q.rootAt(r)));
            }
            if (conflicts == 0) tellDangling(draft);
            return conflicts == 0;
        }

        private void uniteEntry(Picture b, Picture p, Picture q, Picture draft, int n) {
            if (p.sameEntry(b, n)) {
                draft.takeEntry(q, n);
            } else if (q.sameEntry(b, n) || q.sameEntry(p, n)) {
                draft.takeEntry(p, n);
            } else if (p.has(n) && q.has(n)) {
                uniteParts(b, p, q, draft, n);
            } else {
                add(OF_ENTRY, n, NONE);
            }
        }

        private void uniteParts(Picture b, Picture p, Picture q, Picture draft, int n) {
            draft.open(n);
            int before = EditList.bit(b.isLocked(n));
            int one = EditList.bit(p.isLocked(n));
            int other = EditList.bit(q.isLocked(n));
            if (clash(before, one, other)) add(OF_SEALED, n, NONE);
            draft.setLocked(n, chosen(before, one, other) == 1);
            for (int i = 0; i < shapes.lengthOf(n); i++) {
                if (clash(b.valueAt(n, i), p.valueAt(n, i), q.valueAt(n, i))) add(OF_VALUE, n, i);
                draft.write(n, i, chosen(b.valueAt(n, i), p.valueAt(n, i), q.valueAt(n, i)));
            }
        }

        private static boolean clash(long b, long p, long q) {
            return p != b && q != b && p != q;
        }

        private static long chosen(long b, long p, long q) {
            return p == b ? q : p;
        }

        private void tellDangling(Picture draft) {
            for (int n = 0; n < draft.numbers(); n++) {
                for (int i = 0; i < shapes.lengthOf(n); i++) {
                    if (draft.dangles(n, i)) add(OF_NAMES, n, i);
                }
            }
            for (int r = 0; r < MOST_ROOTS; r++) {
                if (draft.rootDangles(r)) add(OF_NAMES, -1 - r, NONE);
            }
        }

        private void add(int sort, int first, int second) {
            if (conflicts >= 0 && conflicts < MOST_TOLD) {
                rows[conflicts * NUMBERS] = sort;
                rows[conflicts * NUMBERS + 1] = first;
                rows[conflicts * NUMBERS + 2] = second;
            }
            conflicts++;
        }
    }

    /** Makes THINGS anew: of what a walk met, or of a PICTURE. */
    private static final class Copier {
        private final ThingTable things;
        /** The number of the new THING, by that of the one that it stands for. */
        private final int[] stands = new int[MOST_THINGS];

        Copier(ThingTable things) {
            this.things = things;
        }

        private int standIn(long x) {
            return x >= 0 && x < MOST_THINGS ? stands[(int) x] : NONE;
        }

        private void setStandIn(int x, int made) {
            if (x >= 0 && x < MOST_THINGS) stands[x] = made;
        }

        int copyReached(Reach reach, int x) {
            int wanted = 0;
            for (int at = 0; at < reach.size(); at++) {
                if (!things.isBox(reach.at(at))) wanted++;
            }
            if (!things.hasRoomFor(wanted)) return FULL;
            for (int at = 0; at < reach.size(); at++) {
                int old = reach.at(at);
                setStandIn(old, things.isBox(old) ? old : things.add(things.classNumber(old), things.lengthOf(old)));
            }
            for (int at = 0; at < reach.size(); at++) {
                if (!things.isBox(reach.at(at))) copyValues(reach.at(at));
            }
            return standIn(x);
        }

        private void copyValues(int old) {
            int made = standIn(old);
            if (things.isLocked(old)) things.lock(made);
            for (int i = 0; i < things.lengthOf(old); i++) {
                things.write(made, i, standInValue(old, i, things.valueAt(old, i)));
            }
        }

        private long standInValue(int old, int i, long value) {
            return things.isLink(old, i) ? standIn(value) : value;
        }

        /** ROOTS and THINGS as in a PICTURE: how many were made. FULL: not all can be. */
        int bringBack(Picture picture, int[] roots) {
            if (!things.hasRoomFor(wantedBy(picture))) return FULL;
            int before = things.madeCount();
            for (int n = 0; n < picture.numbers(); n++) {
                if (picture.has(n)) setStandIn(n, makeOf(picture, n));
            }
            for (int n = 0; n < picture.numbers(); n++) {
                if (picture.has(n) && !things.isBox(n)) fillOf(picture, n);
            }
            for (int r = 0; r < roots.length; r++) {
                roots[r] = standIn(picture.rootAt(r));
            }
            return things.madeCount() - before;
        }

        private int makeOf(Picture picture, int n) {
            int c = things.classNumber(n);
            return things.isBox(n) ? things.boxWith(c, picture.valueAt(n, 0)) : things.add(c, things.lengthOf(n));
        }

        private void fillOf(Picture picture, int n) {
            int made = standIn(n);
            if (picture.isLocked(n)) things.lock(made);
            for (int i = 0; i < things.lengthOf(n); i++) {
                things.write(made, i, standInValue(n, i, picture.valueAt(n, i)));
            }
        }

        private int wantedBy(Picture picture) {
            int wanted = 0;
            for (int n = 0; n < picture.numbers(); n++) {
                if (picture.has(n) && !(things.isBox(n) && isHad(picture, n))) wanted++;
            }
            return wanted;
        }

        /** Whether the BOX of an ENTRY is there already, or will be by an ENTRY ahead of it. */
        private boolean isHad(Picture picture, int n) {
            int c = things.classNumber(n);
            long word = picture.valueAt(n, 0);
            if (!Words.isShared(c - ClassTable.FIRST_BOX, word)) return false;
            if (things.sharedBox(c, word) != NONE) return true;
            for (int m = 0; m < n; m++) {
                if (picture.has(m) && things.classNumber(m) == c && picture.valueAt(m, 0) == word) return true;
            }
            return false;
        }
    }
}
