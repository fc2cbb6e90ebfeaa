/** Promises 28 to 31, sentence by sentence: ROOTS. */
public final class BoundsOfRootsTest extends Bounds {
    private static final int[] NO_ROOTS = {LEAST, -101, -1, 6, 7, MOST};
    private static final int[] NO_THINGS = {LEAST, -101, -2, Scenes.GONE, Scenes.UNMADE, 299, 300, MOST};

    public static void main(String[] args) throws IllegalAccessException {
        runAll(BoundsOfRootsTest.class);
    }

    // ---- promise 28

    @Sentence("A ROOT becomes a THING, or NONE: what it was.")
    static void p28_whatItWas() {
        GraphPhotographer g = Scenes.rich();
        int[] was = {Scenes.LOOSE, Scenes.SHUT, Scenes.NODE_ROW, Scenes.BIG, NONE, Scenes.EMPTY_ROW};
        for (int r = 0; r < 6; r++) {
            due("name(" + r + ", FIVE)", g.name(r, Scenes.FIVE), was[r]);
            due("root(" + r + ")", g.root(r), Scenes.FIVE);
            due("the same again", g.name(r, Scenes.FIVE), Scenes.FIVE);
            due("NONE", g.name(r, NONE), Scenes.FIVE);
            due("root(" + r + ")", g.root(r), NONE);
            due("NONE again", g.name(r, NONE), NONE);
        }
        due("NONE is no FINDING", g.findings(1), Scenes.rich().findings(1));
    }

    @Sentence("UNKNOWN: r, x.")
    static void p28_UNKNOWN() {
        for (int r : NO_ROOTS) {
            refused("name(" + r + ", LOOSE)", Scenes::rich, g -> g.name(r, Scenes.LOOSE), UNKNOWN);
            refused("name(" + r + ", NONE)", Scenes::rich, g -> g.name(r, NONE), UNKNOWN);
        }
        for (int x : NO_THINGS) refused("name(0, " + x + ")", Scenes::rich, g -> g.name(0, x), UNKNOWN);
        refused("of an empty object", GraphPhotographer::new, g -> g.name(0, 0), UNKNOWN);
    }

    // ---- promise 29

    @Sentence("What a ROOT is.")
    static void p29_whatItIs() {
        int[] want = {Scenes.LOOSE, Scenes.SHUT, Scenes.NODE_ROW, Scenes.BIG, NONE, Scenes.EMPTY_ROW};
        GraphPhotographer g = Scenes.rich();
        for (int r = 0; r < 6; r++) due("root(" + r + ")", g.root(r), want[r]);
    }

    @Sentence("UNKNOWN.")
    static void p29_UNKNOWN() {
        for (int r : NO_ROOTS) refused("root(" + r + ")", Scenes::rich, g -> g.root(r), UNKNOWN);
    }

    // ---- promise 30

    /** ROOT 5 is the first of nine ROWS of 15 ANYS, each of which has the next one at 0 and at 14. */
    private static GraphPhotographer chain() {
        GraphPhotographer g = new GraphPhotographer();
        int anys = g.rowOf(8);
        for (int i = 0; i < 9; i++) g.make(anys, 15);
        for (int i = 0; i < 8; i++) {
            g.set(i, 0, i + 1);
            g.set(i, 14, i + 1);
        }
        g.name(5, 0);
        return g;
    }

    @Sentence("digits of way by sixteens (of its 32 bits), the lowest first, each one more than a place")
    static void p30_digits() {
        GraphPhotographer g = Scenes.rich();
        due("1 + 1: the ROW", g.path(0, 0x2), Scenes.ANY_ROW);
        due("the lowest first", g.path(0, 0x42), Scenes.INT_ROW);
        due("NONE at the end", g.path(0, 0x32), NONE);
        due("around", g.path(0, 0x2121212), Scenes.ANY_ROW);
        GraphPhotographer h = chain();
        due("the highest digit there is", h.path(5, 0xf), 1);
        due("eight digits", h.path(5, 0x11111111), 8);
        due("eight of the highest", h.path(5, -1), 8);
        due("a way below 0, in its 32 bits", h.path(5, 0xf1111111), 8);
        due("the eighth counts", h.path(5, 0x21111111), NONE);
    }

    @Sentence("(0 ends it): the THING, or NONE.")
    static void p30_0EndsIt() {
        GraphPhotographer g = chain();
        due("at once", g.path(5, 0), 0);
        due("at once, whatever is behind", g.path(5, 0xfffffff0), 0);
        due("behind one", g.path(5, 0xffffff01), 1);
        due("behind seven", g.path(5, 0x01111111), 7);
        due("a ROOT that is NONE", g.path(4, 0), NONE);
        due("a ROOT that is NONE, whatever is behind", g.path(4, 0xf0), NONE);
        due("no FINDING", g.finding(), 0);
    }

    @Sentence("UNKNOWN")
    static void p30_UNKNOWN() {
        for (int r : NO_ROOTS) {
            refused("path(" + r + ", 0)", Scenes::rich, g -> g.path(r, 0), UNKNOWN);
            refused("ahead of INDEX " + r, Scenes::rich, g -> g.path(r, 0xf), UNKNOWN);
        }
    }

    @Sentence("NULL: on the way")
    static void p30_NULL() {
        refused("a ROOT that is NONE", Scenes::rich, g -> g.path(4, 1), NULL);
        refused("NONE behind two", Scenes::rich, g -> g.path(0, 0x132), NULL);
        refused("ahead of INDEX", Scenes::rich, g -> g.path(0, 0xf32), NULL);
        refused("the first one counts", Scenes::rich, g -> g.path(0, 0xff132), NULL);
        refused("of an empty object", GraphPhotographer::new, g -> g.path(0, -1), NULL);
    }

    @Sentence("INDEX")
    static void p30_INDEX() {
        refused("of a RECORD", Scenes::rich, g -> g.path(0, 0x3), INDEX);
        refused("of a ROW", Scenes::rich, g -> g.path(0, 0x52), INDEX);
        refused("of a ROW without ELEMENTS", Scenes::rich, g -> g.path(5, 0x1), INDEX);
        refused("of a BOX", Scenes::rich, g -> g.path(3, 0x2), INDEX);
        refused("of ints", Scenes::rich, g -> g.path(0, 0x442), INDEX);
        refused("behind fifteen", BoundsOfRootsTest::fourteen, g -> g.path(0, 0xf), INDEX);
        due("the fourteenth", fourteen().path(0, 0xe), NONE);
    }

    private static GraphPhotographer fourteen() {
        GraphPhotographer g = Scenes.rich();
        g.name(0, g.make(Scenes.ANYS, 14));
        return g;
    }

    @Sentence("UNLIKE: a WORD (of a BOX, too).")
    static void p30_UNLIKE() {
        refused("of a RECORD", Scenes::rich, g -> g.path(0, 0x1), UNLIKE);
        refused("of a ROW", Scenes::rich, g -> g.path(0, 0x342), UNLIKE);
        refused("of a BOX", Scenes::rich, g -> g.path(3, 0x1), UNLIKE);
        refused("of a BOX on the way", Scenes::rich, g -> g.path(0, 0x1122), UNLIKE);
    }

    // ---- promise 31

    @Sentence("THINGS that no ROOT REACHES, nor a LOOSE RECORD, are GONE: how many.")
    static void p31_howMany() {
        refused("none", Scenes::rich, g -> g.sweep(), 0);
        refused("of an empty object", GraphPhotographer::new, g -> g.sweep(), 0);
        GraphPhotographer g = new GraphPhotographer();
        Scenes.fill(g, 0);
        due("all 300", g.sweep(), 300);
        due("none more", g.sweep(), 0);
        due("that are there", g.count(2), 0);
        due("made ever", g.count(1), 300);
    }

    @Sentence("THINGS that no ROOT REACHES, nor a LOOSE RECORD, are GONE: how many.")
    static void p31_roots() {
        for (int r = 0; r < 6; r++) {
            GraphPhotographer g = new GraphPhotographer();
            int rows = g.rowOf(g.rowOf(4));
            int x = g.multi(rows, 2, 1);
            int y = g.multi(rows, 2, 1);
            g.set(y, 0, x + 1);
            g.name(r, x);
            due("ROOT " + r, g.sweep(), 3);
            for (int z = 0; z < 3; z++) due("it stays", g.length(x + z), z == 0 ? 2 : 1);
            due("what has it is GONE", g.length(y), UNKNOWN);
            due("as is what it had", g.length(y + 1), UNKNOWN);
            due("and what it has", g.length(y + 2), UNKNOWN);
        }
    }

    @Sentence("THINGS that no ROOT REACHES, nor a LOOSE RECORD, are GONE: how many.")
    static void p31_looseRecords() {
        GraphPhotographer g = new GraphPhotographer();
        int k = Graphs.node(g);
        int loose = g.record(k);
        int shut = g.record(k);
        int box = g.box(4, 1000);
        int alone = g.record(k);
        g.set(loose, 1, shut);
        g.set(shut, 1, box);
        g.seal(shut);
        g.seal(alone);
        due("SEALED, and none has it", g.sweep(), 1);
        due("LOOSE stays", g.length(loose), 2);
        due("SEALED behind LOOSE stays", g.length(shut), 2);
        due("and the BOX behind it", g.length(box), 1);
        g.seal(loose);
        due("none is LOOSE", g.sweep(), 3);
        int hollow = g.kind(0);
        g.close(hollow);
        int bare = g.record(hollow);
        due("without components, LOOSE", g.sweep(), 0);
        g.seal(bare);
        due("without components, SEALED", g.sweep(), 1);
    }
}
