/** Objects in which much is there already, always with the same numbers; and some in which no more can be. */
final class Scenes {
    static final int FACE = 20, OTHER_FACE = 21;
    /** KINDS: an int and an ANY, CLOSED, of the FACE; CLOSED without components; OPEN with an int, of the OTHER_FACE. */
    static final int NODE = 22, HOLLOW = 23, OPEN = 24;
    /** ROWS: of ints, of ANYS, ROWS of ROWS of ints, three, four in one another, of NODES, of doubles. */
    static final int INTS = 25, ANYS = 26, INT_ROWS = 27, THREE = 28, FOUR = 29, NODES = 30, DOUBLES = 31;
    static final int NO_CLASS = 32;

    /** RECORDS of a NODE (7, ANY_ROW), (-2, LOOSE), and of HOLLOW. */
    static final int LOOSE = 0, SHUT = 1, BARE = 7;
    /** ROWS (10, 11, 12), (LOOSE, FIVE, NONE, INT_ROW), (SHUT, NONE) of NODES, and one of ANYS without ELEMENTS. */
    static final int INT_ROW = 2, ANY_ROW = 3, NODE_ROW = 8, EMPTY_ROW = 9;
    /** BOXES of ints 5 and 1000. */
    static final int FIVE = 4, BIG = 5;
    static final int GONE = 6, UNMADE = 10;

    private Scenes() {
    }

    /** With PICTURES 0, 1, 2; two EDITS that make 1 of 0; a MISFIT, a CONFLICT and SEEN 11. */
    static GraphPhotographer rich() {
        GraphPhotographer g = new GraphPhotographer();
        makeClasses(g);
        makeThings(g);
        takePictures(g);
        g.get(INT_ROW, 1);
        return g;
    }

    private static void makeClasses(GraphPhotographer g) {
        g.face();
        g.face();
        g.kind(1);
        g.component(NODE, 4);
        g.component(NODE, 8);
        g.close(NODE);
        g.kind(0);
        g.close(HOLLOW);
        g.kind(2);
        g.component(OPEN, 4);
        for (int c : new int[] {4, 8, INTS, INT_ROWS, THREE, NODE, 7}) g.rowOf(c);
    }

    private static void makeThings(GraphPhotographer g) {
        g.record(NODE);
        g.record(NODE);
        g.make(INTS, 3);
        g.make(ANYS, 4);
        g.box(4, 5);
        g.box(4, 1000);
        g.make(INTS, 2);
        g.record(HOLLOW);
        g.make(NODES, 2);
        g.make(ANYS, 0);
        g.put(LOOSE, 0, 4, 7);
        g.set(LOOSE, 1, ANY_ROW);
        g.put(SHUT, 0, 4, -2);
        g.set(SHUT, 1, LOOSE);
        g.seal(SHUT);
        for (int i = 0; i < 3; i++) g.put(INT_ROW, i, 4, 10 + i);
        g.set(ANY_ROW, 0, LOOSE);
        g.set(ANY_ROW, 1, FIVE);
        g.set(ANY_ROW, 3, INT_ROW);
        g.set(NODE_ROW, 0, SHUT);
        int[] roots = {LOOSE, SHUT, NODE_ROW, BIG, -1, EMPTY_ROW};
        for (int r = 0; r < 6; r++) g.name(r, roots[r]);
        g.sweep();
    }

    private static void takePictures(GraphPhotographer g) {
        g.photo();
        g.put(LOOSE, 0, 4, 8);
        g.name(4, FIVE);
        g.photo();
        g.put(LOOSE, 0, 4, 9);
        g.name(4, -1);
        g.photo();
        g.put(LOOSE, 0, 4, 7);
        g.differ(0, 1);
        g.lay(1);
        g.merge(0, 1, 2);
    }

    /** Rich, and so many more THINGS can be made. */
    static GraphPhotographer roomFor(int left) {
        GraphPhotographer g = rich();
        fill(g, left);
        return g;
    }

    /** By nine at once, so that calls are left for what is asked then. */
    static void fill(GraphPhotographer g, int left) {
        int rows = g.rowOf(g.rowOf(4));
        int made = g.count(1);
        // counted here, so that it ends whatever the program answers
        for (; made + 9 <= 300 - left; made += 9) g.multi(rows, 8, 0);
        for (; made < 300 - left; made++) g.make(rows, 0);
    }

    static GraphPhotographer fullOfThings() {
        return roomFor(0);
    }

    static GraphPhotographer fullOfClasses() {
        GraphPhotographer g = rich();
        for (int n = 12; n < 40; n++) g.kind(0);
        return g;
    }

    static GraphPhotographer fullOfPictures() {
        GraphPhotographer g = rich();
        for (int p = 3; p < 12; p++) g.photo();
        return g;
    }

    /** RECORDS 0 to 299 of an int and an ANY, each of which has the next one. */
    static GraphPhotographer chainOf300() {
        GraphPhotographer g = new GraphPhotographer();
        g.record(Graphs.node(g));
        // each time a copy of all, at last of the last 44, hangs behind: 18 calls instead of 600
        for (int end : new int[] {0, 1, 3, 7, 15, 31, 63, 127, 255}) g.set(end, 1, g.deep(end == 255 ? 212 : 0));
        return g;
    }

    /** ROOT 0 reaches 57 ROWS of 16 ints; PICTURE 0 with all 0, 1 with 900 other ones, 2 with one more. No EDITS yet. */
    static GraphPhotographer nineHundredChanges() {
        GraphPhotographer g = new GraphPhotographer();
        int ints = g.rowOf(4);
        int anys = g.rowOf(8);
        int top = g.make(anys, 4);
        for (int i = 0; i < 4; i++) g.set(top, i, g.make(anys, 16));
        for (int i = 0; i < 57; i++) g.set(1 + i / 16, i % 16, g.make(ints, 16));
        g.name(0, top);
        g.photo();
        for (int i = 0; i < 16; i++) g.put(5, i, 4, 1 + i);
        for (int row = 6; row < 61; row++) g.copy(5, 0, row, 0, 16);
        g.copy(5, 0, 61, 0, 4);
        g.photo();
        g.put(61, 4, 4, 1);
        g.photo();
        return g;
    }
}
