/** Promises 32 to 34 and 41 with PICTURES of 'Terms', sentence by sentence. */
public final class BoundsOfPicturesTest extends Bounds {
    private static final int[] NO_PICTURES = {LEAST, -101, -2, -1, 3, 4, 11, 12, MOST};

    public static void main(String[] args) throws IllegalAccessException {
        runAll(BoundsOfPicturesTest.class);
    }

    private static long value(GraphPhotographer g, int p, int x, int i) {
        g.entry(p, x, 3 + i);
        return g.seen();
    }

    // ---- PICTURES

    @Sentence("PICTURES 0, 1, .. (12 at most)")
    static void p00_PICTURES_twelve() {
        GraphPhotographer g = new GraphPhotographer();
        for (int p = 0; p < 12; p++) due("photo()", g.photo(), p);
        due("a 13th", g.photo(), FULL);
        due("the 12th can be asked", g.picture(11, 0), 0);
        due("the 13th can not", g.picture(12, 0), UNKNOWN);
        due("count(3)", g.count(3), 12);
    }

    @Sentence("PICTURES 0, 1, .. (12 at most)")
    static void p00_PICTURES_twelveByLayAndMerge() {
        GraphPhotographer g = Scenes.rich();
        g.differ(0, 1);
        for (int p = 3; p < 12; p++) due("PICTURE " + p, p % 2 == 0 ? g.lay(0) : g.merge(0, 1, 1), p);
        due("a 13th by photo()", g.photo(), FULL);
        due("by lay()", g.lay(0), FULL);
        due("by merge()", g.merge(0, 1, 1), FULL);
    }

    @Sentence("its CLASS, length, whether it is SEALED (0, 1; of others 0), its values (WORDS, numbers of THINGS, NONE; a BOX has one, its WORD)")
    static void p00_PICTURES_entries() {
        GraphPhotographer g = Scenes.rich();
        int[][] want = {{Scenes.LOOSE, Scenes.NODE, 2, 0}, {Scenes.SHUT, Scenes.NODE, 2, 1}, {Scenes.INT_ROW, Scenes.INTS, 3, 0},
            {Scenes.ANY_ROW, Scenes.ANYS, 4, 0}, {Scenes.BIG, 14, 1, 0}, {Scenes.EMPTY_ROW, Scenes.ANYS, 0, 0}};
        for (int[] w : want) {
            for (int what = 0; what < 3; what++) due("entry " + w[0] + " " + what, g.entry(0, w[0], what), w[1 + what]);
        }
        due("a WORD", value(g, 0, Scenes.INT_ROW, 2), 12);
        due("a number", value(g, 0, Scenes.ANY_ROW, 3), Scenes.INT_ROW);
        due("NONE", value(g, 0, Scenes.ANY_ROW, 2), NONE);
        due("a BOX's WORD", value(g, 0, Scenes.BIG, 0), 1000);
    }

    @Sentence("and six ROOTS.")
    static void p00_PICTURES_sixRoots() {
        GraphPhotographer g = new GraphPhotographer();
        for (int r = 0; r < 6; r++) g.name(r, g.box(4, 500 + r));
        g.photo();
        for (int r = 0; r < 6; r++) due("ROOT " + r, g.picture(0, 2 + r), r);
        due("no seventh", g.picture(0, 8), OUTSIDE);
        for (int r = 0; r < 6; r++) g.name(r, NONE);
        due("made", g.restore(0), 6);
        for (int r = 0; r < 6; r++) due("ROOT " + r + " again", g.root(r), 6 + r);
    }

    @Sentence("All THINGS that its values and ROOTS name have ENTRIES.")
    static void p00_PICTURES_allThatIsNamed() {
        GraphPhotographer g = Scenes.rich();
        for (int p = 0; p < 3; p++) {
            for (int r = 0; r < 6; r++) {
                int x = g.picture(p, 2 + r);
                if (x != NONE) due("ROOT " + r, g.entry(p, x, 0), g.classOf(x));
            }
            for (int x = 0; x < 10; x++) {
                for (int i = 0; i < g.entry(p, x, 1); i++) {
                    boolean isThing = g.entry(p, x, 3 + i) == 1 && g.seen() != NONE;
                    if (isThing) due("value " + x + ", " + i, g.entry(p, (int) g.seen(), 0) != NONE ? 1 : 0, 1);
                }
            }
        }
        due("what no ROOT REACHES has none", g.entry(0, Scenes.BARE, 0), NONE);
    }

    @Sentence("They never change.")
    static void p00_PICTURES_neverChange() {
        GraphPhotographer g = Scenes.rich();
        GraphPhotographer twin = Scenes.rich();
        g.put(Scenes.INT_ROW, 0, 4, 99);
        g.set(Scenes.ANY_ROW, 0, NONE);
        g.copy(Scenes.INT_ROW, 0, Scenes.INT_ROW, 1, 2);
        g.seal(Scenes.LOOSE);
        for (int r = 0; r < 6; r++) g.name(r, NONE);
        g.sweep();
        g.photo();
        g.differ(2, 3);
        g.lay(2);
        g.merge(0, 1, 3);
        g.restore(1);
        g.deep(g.root(0));
        for (int p = 0; p < 3; p++) {
            for (int what = 0; what < 8; what++) due("picture(" + p + ", " + what + ")", g.picture(p, what), twin.picture(p, what));
            for (int x = 0; x < 12; x++) sameEntry(g, twin, p, x);
        }
    }

    private static void sameEntry(GraphPhotographer g, GraphPhotographer twin, int p, int x) {
        for (int what = 0; what < 3; what++) due("entry(" + p + ", " + x + ", " + what + ")", g.entry(p, x, what), twin.entry(p, x, what));
        for (int i = 0; i < twin.entry(p, x, 1); i++) {
            due("value(" + p + ", " + x + ", " + i + ")", value(g, p, x, i), value(twin, p, x, i));
        }
    }

    // ---- promise 32

    @Sentence("A PICTURE of ROOTS and all that they REACH: its number.")
    static void p32_allThatTheyReach() {
        GraphPhotographer g = Scenes.rich();
        due("photo()", g.photo(), 3);
        due("ENTRIES: all but BARE", g.picture(3, 0), 8);
        due("not BARE, LOOSE as it is", g.entry(3, Scenes.BARE, 0), NONE);
        for (int r = 0; r < 6; r++) g.name(r, NONE);
        due("photo()", g.photo(), 4);
        due("no ENTRIES", g.picture(4, 0), 0);
        g.name(5, Scenes.BARE);
        due("photo()", g.photo(), 5);
        due("one", g.picture(5, 0), 1);
        due("its ROOT", g.picture(5, 7), Scenes.BARE);
    }

    @Sentence("A PICTURE of ROOTS and all that they REACH: its number.")
    static void p32_ofAFullOne() {
        GraphPhotographer g = Scenes.chainOf300();
        g.name(0, 1);
        due("photo()", g.photo(), 0);
        due("all but the first one", g.picture(0, 0), 299);
        g.set(299, 1, 0);
        due("photo()", g.photo(), 1);
        due("all", g.picture(1, 0), 300);
        due("RECORDS", g.picture(1, 1), 300);
        due("the last one", value(g, 1, 299, 1), 0);
        due("as it was", value(g, 0, 299, 1), NONE);
    }

    @Sentence("FULL.")
    static void p32_FULL() {
        refused("a 13th", Scenes::fullOfPictures, g -> g.photo(), FULL);
    }

    // ---- promise 33

    @Sentence("what = 0 how many ENTRIES, 1 how many of RECORDS, 2 + r ROOT r.")
    static void p33_each() {
        GraphPhotographer g = Scenes.rich();
        int[] want = {8, 2, Scenes.LOOSE, Scenes.SHUT, Scenes.NODE_ROW, Scenes.BIG, Scenes.FIVE, Scenes.EMPTY_ROW};
        for (int what = 0; what < 8; what++) due("picture(1, " + what + ")", g.picture(1, what), want[what]);
        due("a ROOT that is NONE", g.picture(0, 6), NONE);
        GraphPhotographer h = new GraphPhotographer();
        h.photo();
        int[] empty = {0, 0, NONE, NONE, NONE, NONE, NONE, NONE};
        for (int what = 0; what < 8; what++) due("of nothing " + what, h.picture(0, what), empty[what]);
    }

    @Sentence("UNKNOWN; OUTSIDE: what is not 0 .. 7.")
    static void p33_UNKNOWN() {
        for (int p : NO_PICTURES) {
            refused("picture(" + p + ", 0)", Scenes::rich, g -> g.picture(p, 0), UNKNOWN);
            refused("ahead of OUTSIDE " + p, Scenes::rich, g -> g.picture(p, 8), UNKNOWN);
        }
        due("the last one", Scenes.rich().picture(2, 0), 8);
    }

    @Sentence("OUTSIDE: what is not 0 .. 7.")
    static void p33_OUTSIDE() {
        for (int what : new int[] {LEAST, -101, -1, 8, 9, MOST}) {
            refused("picture(0, " + what + ")", Scenes::rich, g -> g.picture(0, what), OUTSIDE);
        }
    }

    // ---- promise 34

    @Sentence("3 + i: SEEN becomes value i: 0 (a WORD), 1.")
    static void p34_values() {
        GraphPhotographer g = Scenes.rich();
        due("a WORD", g.entry(1, Scenes.LOOSE, 3), 0);
        due("it", g.seen(), 8);
        due("a THING", g.entry(1, Scenes.LOOSE, 4), 1);
        due("its number", g.seen(), Scenes.ANY_ROW);
        due("NONE", g.entry(1, Scenes.ANY_ROW, 5), 1);
        due("it", g.seen(), NONE);
        due("a BOX's", g.entry(1, Scenes.FIVE, 3), 0);
        due("it", g.seen(), 5);
        GraphPhotographer h = new GraphPhotographer();
        h.name(0, h.make(h.rowOf(5), 16));
        h.put(0, 15, 5, Long.MIN_VALUE);
        h.photo();
        due("the last of sixteen", h.entry(0, 0, 18), 0);
        due("it", h.seen(), Long.MIN_VALUE);
        due("behind it", h.entry(0, 0, 19), INDEX);
    }

    @Sentence("what = 0 its CLASS, 1 its length, 2 whether it is SEALED")
    static void p34_leaveSeen() {
        for (int what = 0; what < 3; what++) {
            int asked = what;
            int[] want = {Scenes.NODE, 2, 1};
            refused("what " + what + " changes nothing", Scenes::rich, g -> g.entry(0, Scenes.SHUT, asked), want[what]);
        }
    }

    @Sentence("UNKNOWN: p")
    static void p34_UNKNOWN() {
        for (int p : NO_PICTURES) refused("entry(" + p + ")", Scenes::rich, g -> g.entry(p, Scenes.LOOSE, 0), UNKNOWN);
        refused("ahead of OUTSIDE", Scenes::rich, g -> g.entry(3, Scenes.LOOSE, -1), UNKNOWN);
        refused("ahead of NONE", Scenes::rich, g -> g.entry(3, 99, 0), UNKNOWN);
        refused("ahead of INDEX", Scenes::rich, g -> g.entry(3, Scenes.LOOSE, 5), UNKNOWN);
    }

    @Sentence("OUTSIDE: what is below 0")
    static void p34_OUTSIDE() {
        for (int what : new int[] {-1, -2, LEAST}) {
            refused("entry(0, LOOSE, " + what + ")", Scenes::rich, g -> g.entry(0, Scenes.LOOSE, what), OUTSIDE);
            refused("ahead of NONE " + what, Scenes::rich, g -> g.entry(0, 99, what), OUTSIDE);
        }
    }

    @Sentence("NONE: there is no such ENTRY")
    static void p34_NONE() {
        for (int x : new int[] {LEAST, -2, -1, Scenes.GONE, Scenes.BARE, Scenes.UNMADE, 299, 300, MOST}) {
            for (int what : new int[] {0, 1, 2, 3, MOST}) {
                refused("entry(0, " + x + ", " + what + ")", Scenes::rich, g -> g.entry(0, x, what), NONE);
            }
        }
        GraphPhotographer g = Scenes.rich();
        g.name(0, g.make(Scenes.INTS, 16));
        due("of what was made behind it", g.entry(0, Scenes.UNMADE, 0), NONE);
        g.photo();
        due("nor by another PICTURE", g.entry(2, Scenes.UNMADE, 18), NONE);
        due("which has it", g.entry(3, Scenes.UNMADE, 18), 0);
    }

    @Sentence("INDEX.")
    static void p34_INDEX() {
        int[][] wrong = {{Scenes.LOOSE, 5}, {Scenes.INT_ROW, 6}, {Scenes.ANY_ROW, 7}, {Scenes.EMPTY_ROW, 3}, {Scenes.BIG, 4}};
        for (int[] w : wrong) {
            for (int what : new int[] {w[1], w[1] + 1, 19, MOST}) {
                refused("entry(0, " + w[0] + ", " + what + ")", Scenes::rich, g -> g.entry(0, w[0], what), INDEX);
            }
        }
    }

    // ---- promise 41

    @Sentence("ROOTS become as in a PICTURE, of new THINGS as in its ENTRIES (by numbers;")
    static void p41_byNumbers() {
        GraphPhotographer g = Scenes.rich();
        g.put(Scenes.LOOSE, 0, 4, 77);
        g.name(4, Scenes.BARE);
        due("made: all of its eight but FIVE", g.restore(0), 7);
        due("count(1)", g.count(1), 17);
        // LOOSE 10, SHUT 11, INT_ROW 12, ANY_ROW 13, BIG 14, NODE_ROW 15, EMPTY_ROW 16
        int[] classes = {Scenes.NODE, Scenes.NODE, Scenes.INTS, Scenes.ANYS, 14, Scenes.NODES, Scenes.ANYS};
        for (int i = 0; i < 7; i++) due("CLASS of " + (10 + i), g.classOf(10 + i), classes[i]);
        int[] roots = {10, 11, 15, 14, NONE, 16};
        for (int r = 0; r < 6; r++) due("ROOT " + r, g.root(r), roots[r]);
        due("as it was", Graphs.value(g, 10, 0), 7);
        due("the old one is as it is", Graphs.value(g, Scenes.LOOSE, 0), 77);
        due("THINGS", Graphs.value(g, 10, 1), 13);
        int[] anys = {10, Scenes.FIVE, NONE, 12};
        for (int i = 0; i < 4; i++) due("ANY_ROW " + i, Graphs.value(g, 13, i), anys[i]);
        due("SEALED", g.sealed(11), 1);
        due("LOOSE", g.sealed(10), 0);
        due("LIKE", g.like(11, Scenes.SHUT), 0);
        due("LIKE but for what was put", g.put(Scenes.LOOSE, 0, 4, 7) + g.like(11, Scenes.SHUT), 1);
    }

    @Sentence("ROOTS become as in a PICTURE, of new THINGS as in its ENTRIES (by numbers;")
    static void p41_ofNothing() {
        GraphPhotographer g = new GraphPhotographer();
        g.photo();
        g.name(3, g.box(4, 1));
        due("none made", g.restore(0), 0);
        due("ROOT 3", g.root(3), NONE);
        GraphPhotographer h = new GraphPhotographer();
        h.photo();
        Scenes.fill(h, 0);
        h.name(5, 299);
        due("in a full one", h.restore(0), 0);
        due("ROOT 5", h.root(5), NONE);
    }

    @Sentence("BOXES as by box(), each anew if they are not one and the same for like WORDS)")
    static void p41_boxes() {
        for (int k = 2; k < 6; k++) {
            long[] words = {k == 2 ? 0 : -128, 127, k == 2 ? 65408 : -129, 128};
            for (int w = 0; w < 4; w++) {
                GraphPhotographer g = new GraphPhotographer();
                g.name(0, g.box(k, words[w]));
                g.photo();
                due(k + ": " + words[w], g.restore(0), w < 2 ? 0 : 1);
                due("ROOT 0", g.root(0), w < 2 ? 0 : 1);
                g.name(0, NONE);
                g.sweep();
                due("GONE, so anew", g.restore(0), 1);
                due("its WORD", Graphs.value(g, g.root(0), 0), words[w]);
            }
        }
        for (int k : new int[] {6, 7}) {
            GraphPhotographer g = new GraphPhotographer();
            g.name(0, g.box(k, 0));
            g.photo();
            due(k + " anew", g.restore(0), 1);
        }
    }

    @Sentence("BOXES as by box(), each anew if they are not one and the same for like WORDS)")
    static void p41_oneBoxTwice() {
        GraphPhotographer g = new GraphPhotographer();
        g.name(0, g.box(4, 500));
        g.name(1, g.root(0));
        g.name(2, g.box(4, 500));
        g.photo();
        due("one a number, not one a ROOT", g.restore(0), 2);
        due("ROOT 0", g.root(0), 2);
        due("ROOT 1 is the same", g.root(1), 2);
        due("ROOT 2 is another one", g.root(2), 3);
    }

    @Sentence("how many were made.")
    static void p41_howManyWereMade() {
        GraphPhotographer g = Scenes.rich();
        int before = g.count(1);
        due("not FIVE, which is there", g.restore(1), 7);
        due("count(1)", g.count(1), before + 7);
        for (int r = 0; r < 6; r++) g.name(r, NONE);
        for (int x = 0; x < g.count(1); x++) if (g.sealed(x) == 0) g.seal(x);
        due("all GONE", g.sweep(), before + 6);
        due("with FIVE", g.restore(1), 8);
        due("count(2)", g.count(2), 8);
    }

    @Sentence("UNKNOWN")
    static void p41_UNKNOWN() {
        for (int p : NO_PICTURES) refused("restore(" + p + ")", Scenes::rich, g -> g.restore(p), UNKNOWN);
        refused("ahead of FULL", Scenes::fullOfThings, g -> g.restore(3), UNKNOWN);
    }

    @Sentence("FULL: not all.")
    static void p41_FULL_notAll() {
        GraphPhotographer g = Scenes.roomFor(7);
        due("just all", g.restore(0), 7);
        due("count(1)", g.count(1), 300);
        for (int left = 0; left < 7; left++) {
            int n = left;
            refused("with room for " + n, () -> Scenes.roomFor(n), h -> h.restore(0), FULL);
        }
    }

    /** A merge() can have two ENTRIES of BOXES that are one and the same: one was GONE when the other one came. */
    private static GraphPhotographer twoFives(int left) {
        GraphPhotographer g = new GraphPhotographer();
        g.photo();
        g.name(0, g.box(4, 5));
        g.photo();
        g.name(0, NONE);
        g.sweep();
        g.name(1, g.box(4, 5));
        g.name(2, g.box(5, 5));
        g.name(3, g.box(4, 6));
        g.photo();
        g.merge(0, 1, 2);
        for (int r = 0; r < 6; r++) g.name(r, NONE);
        g.sweep();
        Scenes.fill(g, left);
        return g;
    }

    @Sentence("FULL: not all.")
    static void p41_FULL_oneBoxForTwoEntries() {
        GraphPhotographer g = twoFives(3);
        due("four ENTRIES", g.picture(3, 0), 4);
        due("three BOXES", g.restore(3), 3);
        int[] roots = {297, 297, 298, 299, NONE, NONE};
        for (int r = 0; r < 6; r++) due("ROOT " + r, g.root(r), roots[r]);
        refused("one too few", () -> twoFives(2), h -> h.restore(3), FULL);
    }

    /** Two BOXES that a PICTURE has, and that are GONE. */
    private static GraphPhotographer twoBoxes(int k, long word, int otherK, long otherWord, int left) {
        GraphPhotographer g = new GraphPhotographer();
        g.name(0, g.box(k, word));
        g.name(1, g.box(otherK, otherWord));
        g.photo();
        g.name(0, NONE);
        g.name(1, NONE);
        g.sweep();
        Scenes.fill(g, left);
        return g;
    }

    @Sentence("FULL: not all.")
    static void p41_FULL_twoBoxesForTwoEntries() {
        int[][] two = {{4, 500, 4, 500}, {4, 5, 4, 6}, {4, 5, 5, 5}, {4, 5, 4, 500}, {6, 0, 6, 0}};
        for (int[] t : two) {
            String call = t[0] + " of " + t[1] + " and " + t[2] + " of " + t[3];
            due(call + ": just both", twoBoxes(t[0], t[1], t[2], t[3], 2).restore(0), 2);
            refused(call + ": one too few", () -> twoBoxes(t[0], t[1], t[2], t[3], 1), g -> g.restore(0), FULL);
        }
    }

    /** FIVE must be anew then, too. */
    @Sentence("FULL: not all.")
    static void p41_FULL_whenTheBoxIsGone() {
        due("just all", goneButRoomFor(8).restore(0), 8);
        refused("one too few", () -> goneButRoomFor(7), g -> g.restore(0), FULL);
    }

    private static GraphPhotographer goneButRoomFor(int left) {
        GraphPhotographer g = Scenes.rich();
        for (int r = 0; r < 6; r++) g.name(r, NONE);
        g.seal(Scenes.LOOSE);
        g.sweep();
        Scenes.fill(g, left);
        return g;
    }
}
