/** Promises 9 to 12, 21, 22, sentence by sentence: what makes THINGS. */
public final class BoundsOfMakingTest extends Bounds {
    private static final int[] NO_CLASSES = {LEAST, -101, -1, 9, 18, 19, Scenes.NO_CLASS, 59, 60, MOST};
    private static final int[] NO_THINGS = {LEAST, -101, -2, Scenes.GONE, Scenes.UNMADE, 299, 300, MOST};
    private static final long NO_FLOAT = 0x7fc00000L, NO_DOUBLE = 0x7ff8000000000000L;

    public static void main(String[] args) throws IllegalAccessException {
        runAll(BoundsOfMakingTest.class);
    }

    // ---- promise 9

    @Sentence("A ROW of a CLASS with n ELEMENTS: its number.")
    static void p09_fromNoneToSixteen() {
        GraphPhotographer g = Scenes.rich();
        for (int n = 0; n <= 16; n++) {
            due("make(INTS, " + n + ")", g.make(Scenes.INTS, n), Scenes.UNMADE + n);
            due("its length", g.length(Scenes.UNMADE + n), n);
            due("its CLASS", g.classOf(Scenes.UNMADE + n), Scenes.INTS);
        }
        due("of ROWS", g.make(Scenes.FOUR, 16), Scenes.UNMADE + 17);
    }

    @Sentence("UNKNOWN")
    static void p09_UNKNOWN() {
        for (int c : NO_CLASSES) refused("make(" + c + ", 1)", Scenes::rich, g -> g.make(c, 1), UNKNOWN);
        refused("ahead of OUTSIDE", Scenes::rich, g -> g.make(9, 17), UNKNOWN);
        refused("ahead of FULL", Scenes::fullOfThings, g -> g.make(9, 1), UNKNOWN);
        refused("ahead of SIZE", Scenes::rich, g -> g.make(9, -1), UNKNOWN);
    }

    @Sentence("OUTSIDE: the CLASS is no ROW, n is above 16")
    static void p09_OUTSIDE_noRow() {
        for (int c : new int[] {0, 7, 8, 10, 17, Scenes.FACE, Scenes.NODE, Scenes.OPEN}) {
            refused("make(" + c + ", 1)", Scenes::rich, g -> g.make(c, 1), OUTSIDE);
        }
        refused("ahead of FULL", Scenes::fullOfThings, g -> g.make(8, 1), OUTSIDE);
        refused("ahead of SIZE", Scenes::rich, g -> g.make(8, -1), OUTSIDE);
    }

    @Sentence("OUTSIDE: the CLASS is no ROW, n is above 16")
    static void p09_OUTSIDE_above16() {
        for (int n : new int[] {17, 18, 300, MOST}) {
            refused("make(INTS, " + n + ")", Scenes::rich, g -> g.make(Scenes.INTS, n), OUTSIDE);
        }
        refused("ahead of FULL", Scenes::fullOfThings, g -> g.make(Scenes.INTS, 17), OUTSIDE);
    }

    @Sentence("FULL")
    static void p09_FULL() {
        due("the 300th", Scenes.roomFor(1).make(Scenes.INTS, 16), 299);
        refused("the 301st", Scenes::fullOfThings, g -> g.make(Scenes.INTS, 0), FULL);
        refused("ahead of SIZE", Scenes::fullOfThings, g -> g.make(Scenes.INTS, -1), FULL);
    }

    @Sentence("SIZE.")
    static void p09_SIZE() {
        for (int n : new int[] {-1, -2, -17, LEAST}) {
            refused("make(INTS, " + n + ")", Scenes::rich, g -> g.make(Scenes.INTS, n), SIZE);
        }
        refused("with room for one", () -> Scenes.roomFor(1), g -> g.make(Scenes.INTS, -1), SIZE);
    }

    // ---- promise 10

    @Sentence("A ROW with a ELEMENTS, each a ROW with b (made behind it, in order): its number.")
    static void p10_madeBehindIt() {
        for (int a = 0; a <= 8; a += 2) {
            for (int b = 0; b <= 8; b += 4) many(a, b);
        }
        many(1, 1);
        GraphPhotographer g = Scenes.rich();
        due("of ROWS of ROWS", g.multi(Scenes.FOUR, 2, 8), Scenes.UNMADE);
        due("its ROWS", g.classOf(Scenes.UNMADE + 1), Scenes.THREE);
        due("which have none", g.get(Scenes.UNMADE + 1, 7), 1);
        due("NONE", g.seen(), NONE);
    }

    private static void many(int a, int b) {
        GraphPhotographer g = Scenes.rich();
        String call = "multi(" + a + ", " + b + ")";
        due(call, g.multi(Scenes.INT_ROWS, a, b), Scenes.UNMADE);
        due(call + " made", g.count(1), Scenes.UNMADE + 1 + a);
        due(call + " CLASS", g.classOf(Scenes.UNMADE), Scenes.INT_ROWS);
        due(call + " length", g.length(Scenes.UNMADE), a);
        for (int i = 0; i < a; i++) {
            due(call + " ELEMENT", g.get(Scenes.UNMADE, i), 1);
            due(call + " in order", g.seen(), Scenes.UNMADE + 1 + i);
            due(call + " its CLASS", g.classOf(Scenes.UNMADE + 1 + i), Scenes.INTS);
            due(call + " its length", g.length(Scenes.UNMADE + 1 + i), b);
        }
    }

    @Sentence("UNKNOWN")
    static void p10_UNKNOWN() {
        for (int c : NO_CLASSES) refused("multi(" + c + ", 1, 1)", Scenes::rich, g -> g.multi(c, 1, 1), UNKNOWN);
        refused("ahead of OUTSIDE", Scenes::rich, g -> g.multi(9, 9, 9), UNKNOWN);
        refused("ahead of FULL", Scenes::fullOfThings, g -> g.multi(9, 1, 1), UNKNOWN);
        refused("ahead of SIZE", Scenes::rich, g -> g.multi(9, -1, -1), UNKNOWN);
    }

    @Sentence("OUTSIDE: the CLASS is no ROW of ROWS, a or b is above 8")
    static void p10_OUTSIDE_noRowOfRows() {
        for (int c : new int[] {0, 8, 14, Scenes.FACE, Scenes.NODE, Scenes.INTS, Scenes.ANYS, Scenes.NODES}) {
            refused("multi(" + c + ", 1, 1)", Scenes::rich, g -> g.multi(c, 1, 1), OUTSIDE);
        }
        refused("ahead of FULL", Scenes::fullOfThings, g -> g.multi(Scenes.INTS, 1, 1), OUTSIDE);
        refused("ahead of SIZE", Scenes::rich, g -> g.multi(Scenes.INTS, -1, -1), OUTSIDE);
    }

    @Sentence("OUTSIDE: the CLASS is no ROW of ROWS, a or b is above 8")
    static void p10_OUTSIDE_above8() {
        for (int n : new int[] {9, 16, MOST}) {
            refused("a " + n, Scenes::rich, g -> g.multi(Scenes.INT_ROWS, n, 1), OUTSIDE);
            refused("b " + n, Scenes::rich, g -> g.multi(Scenes.INT_ROWS, 1, n), OUTSIDE);
            refused("b " + n + ", without ELEMENTS", Scenes::rich, g -> g.multi(Scenes.INT_ROWS, 0, n), OUTSIDE);
        }
        refused("a ahead of FULL", Scenes::fullOfThings, g -> g.multi(Scenes.INT_ROWS, 9, 1), OUTSIDE);
        refused("b ahead of FULL", Scenes::fullOfThings, g -> g.multi(Scenes.INT_ROWS, 1, 9), OUTSIDE);
        refused("a ahead of SIZE", Scenes::rich, g -> g.multi(Scenes.INT_ROWS, 9, -1), OUTSIDE);
        refused("b ahead of SIZE", Scenes::rich, g -> g.multi(Scenes.INT_ROWS, -1, 9), OUTSIDE);
    }

    @Sentence("FULL: not all")
    static void p10_FULL_notAll() {
        for (int a = 0; a <= 8; a++) {
            int n = a;
            due("just all", Scenes.roomFor(1 + n).multi(Scenes.INT_ROWS, n, 8), 299 - n);
            refused("one too many", () -> Scenes.roomFor(n), g -> g.multi(Scenes.INT_ROWS, n, 8), FULL);
        }
        refused("ahead of SIZE: b", () -> Scenes.roomFor(3), g -> g.multi(Scenes.INT_ROWS, 3, -1), FULL);
        refused("ahead of SIZE: a", Scenes::fullOfThings, g -> g.multi(Scenes.INT_ROWS, -1, 1), FULL);
    }

    @Sentence("SIZE: a, then b.")
    static void p10_SIZE() {
        for (int n : new int[] {-1, -9, LEAST}) {
            refused("a " + n, Scenes::rich, g -> g.multi(Scenes.INT_ROWS, n, 1), SIZE);
            refused("b " + n, Scenes::rich, g -> g.multi(Scenes.INT_ROWS, 1, n), SIZE);
            refused("b " + n + ", without ELEMENTS", Scenes::rich, g -> g.multi(Scenes.INT_ROWS, 0, n), SIZE);
            refused("both " + n + ", one FINDING", Scenes::rich, g -> g.multi(Scenes.INT_ROWS, n, n), SIZE);
        }
        refused("a, with room for one", () -> Scenes.roomFor(1), g -> g.multi(Scenes.INT_ROWS, -1, 1), SIZE);
        refused("b, with room for all", () -> Scenes.roomFor(4), g -> g.multi(Scenes.INT_ROWS, 3, -1), SIZE);
    }

    // ---- promise 11

    @Sentence("A RECORD of a KIND, LOOSE: its number.")
    static void p11_loose() {
        GraphPhotographer g = Scenes.rich();
        due("record(NODE)", g.record(Scenes.NODE), Scenes.UNMADE);
        due("LOOSE", g.sealed(Scenes.UNMADE), 0);
        due("its length", g.length(Scenes.UNMADE), 2);
        due("its CLASS", g.classOf(Scenes.UNMADE), Scenes.NODE);
        due("without components", g.record(Scenes.HOLLOW), Scenes.UNMADE + 1);
        due("its length", g.length(Scenes.UNMADE + 1), 0);
        due("no ELEMENT", g.get(Scenes.UNMADE + 1, 0), INDEX);
    }

    @Sentence("UNKNOWN")
    static void p11_UNKNOWN() {
        for (int k : NO_CLASSES) refused("record(" + k + ")", Scenes::rich, g -> g.record(k), UNKNOWN);
        refused("ahead of FULL", Scenes::fullOfThings, g -> g.record(9), UNKNOWN);
    }

    @Sentence("OUTSIDE: no KIND")
    static void p11_OUTSIDE() {
        for (int k : new int[] {0, 7, 8, 10, 17, Scenes.FACE, Scenes.INTS, Scenes.NODES}) {
            refused("record(" + k + ")", Scenes::rich, g -> g.record(k), OUTSIDE);
            refused("ahead of FULL: record(" + k + ")", Scenes::fullOfThings, g -> g.record(k), OUTSIDE);
        }
    }

    @Sentence("STATE: it is OPEN")
    static void p11_STATE() {
        refused("OPEN", Scenes::rich, g -> g.record(Scenes.OPEN), STATE);
        refused("ahead of FULL", Scenes::fullOfThings, g -> g.record(Scenes.OPEN), STATE);
        GraphPhotographer g = Scenes.rich();
        g.close(Scenes.OPEN);
        due("CLOSED then", g.record(Scenes.OPEN), Scenes.UNMADE);
    }

    @Sentence("FULL.")
    static void p11_FULL() {
        due("the 300th", Scenes.roomFor(1).record(Scenes.NODE), 299);
        refused("the 301st", Scenes::fullOfThings, g -> g.record(Scenes.NODE), FULL);
        refused("without components", Scenes::fullOfThings, g -> g.record(Scenes.HOLLOW), FULL);
    }

    // ---- promise 12

    @Sentence("its number (that of the one there is, if it is one and the same)")
    static void p12_theOneThereIs() {
        GraphPhotographer g = Scenes.rich();
        due("box(4, 5)", g.box(4, 5), Scenes.FIVE);
        due("box(4, 1000)", g.box(4, 1000), Scenes.UNMADE);
        due("again", g.box(4, 1000), Scenes.UNMADE + 1);
        due("of another CLASS", g.box(5, 5), Scenes.UNMADE + 2);
        due("its CLASS", g.classOf(Scenes.UNMADE + 2), 15);
        refused("the one there is changes nothing", Scenes::rich, h -> h.box(4, 5), Scenes.FIVE);
        refused("by a WORD that tells the same", Scenes::rich, h -> h.box(4, 5 + (1L << 32)), Scenes.FIVE);
    }

    @Sentence("OUTSIDE: CLASS, WORD")
    static void p12_OUTSIDE_class() {
        for (int k : new int[] {LEAST, -1, 8, 9, 10, 14, 17, Scenes.FACE, Scenes.NODE, MOST}) {
            refused("box(" + k + ", 0)", Scenes::rich, g -> g.box(k, 0), OUTSIDE);
        }
        refused("ahead of FULL", Scenes::fullOfThings, g -> g.box(8, 0), OUTSIDE);
        for (int k = 0; k < 8; k++) due("box(" + k + ", 0)", Scenes.rich().box(k, 0), Scenes.UNMADE);
    }

    @Sentence("OUTSIDE: CLASS, WORD")
    static void p12_OUTSIDE_word() {
        refused("a float", Scenes::rich, g -> g.box(6, NO_FLOAT), OUTSIDE);
        refused("a double", Scenes::rich, g -> g.box(7, NO_DOUBLE), OUTSIDE);
        refused("ahead of FULL: a float", Scenes::fullOfThings, g -> g.box(6, NO_FLOAT), OUTSIDE);
        refused("ahead of FULL: a double", Scenes::fullOfThings, g -> g.box(7, NO_DOUBLE), OUTSIDE);
    }

    @Sentence("FULL.")
    static void p12_FULL() {
        due("the 300th", Scenes.roomFor(1).box(4, 6), 299);
        refused("the 301st", Scenes::fullOfThings, g -> g.box(4, 6), FULL);
        refused("of a WORD there is, but not one and the same", Scenes::fullOfThings, g -> g.box(4, 1000), FULL);
        refused("the one there is", Scenes::fullOfThings, g -> g.box(4, 5), Scenes.FIVE);
    }

    // ---- promise 21

    @Sentence("A new ROW with the same ELEMENTS")
    static void p21_aNewRow() {
        GraphPhotographer g = Scenes.rich();
        due("of THINGS", g.shallow(Scenes.ANY_ROW), Scenes.UNMADE);
        due("its CLASS", g.classOf(Scenes.UNMADE), Scenes.ANYS);
        due("its length", g.length(Scenes.UNMADE), 4);
        int[] want = {Scenes.LOOSE, Scenes.FIVE, NONE, Scenes.INT_ROW};
        for (int i = 0; i < 4; i++) due("ELEMENT " + i, Graphs.value(g, Scenes.UNMADE, i), want[i]);
        due("of ints", g.shallow(Scenes.INT_ROW), Scenes.UNMADE + 1);
        for (int i = 0; i < 3; i++) due("ELEMENT " + i, Graphs.value(g, Scenes.UNMADE + 1, i), 10 + i);
        due("without ELEMENTS", g.shallow(Scenes.EMPTY_ROW), Scenes.UNMADE + 2);
        due("its length", g.length(Scenes.UNMADE + 2), 0);
        g.put(Scenes.UNMADE + 1, 0, 4, 99);
        due("the old one is another one", Graphs.value(g, Scenes.INT_ROW, 0), 10);
        int full = g.make(Scenes.INTS, 16);
        g.put(full, 15, 4, 3);
        due("the last of sixteen", Graphs.value(g, g.shallow(full), 15), 3);
    }

    @Sentence("a RECORD, a BOX itself: its number.")
    static void p21_itself() {
        for (int x : new int[] {Scenes.LOOSE, Scenes.SHUT, Scenes.BARE, Scenes.FIVE, Scenes.BIG}) {
            refused("shallow(" + x + ")", Scenes::rich, g -> g.shallow(x), x);
            refused("with no room: shallow(" + x + ")", Scenes::fullOfThings, g -> g.shallow(x), x);
        }
    }

    @Sentence("UNKNOWN (but NONE)")
    static void p21_UNKNOWN() {
        for (int x : NO_THINGS) refused("shallow(" + x + ")", Scenes::rich, g -> g.shallow(x), UNKNOWN);
        refused("ahead of FULL", Scenes::fullOfThings, g -> g.shallow(Scenes.GONE), UNKNOWN);
    }

    @Sentence("NULL")
    static void p21_NULL() {
        refused("shallow(NONE)", Scenes::rich, g -> g.shallow(NONE), NULL);
        refused("ahead of FULL", Scenes::fullOfThings, g -> g.shallow(NONE), NULL);
    }

    @Sentence("FULL.")
    static void p21_FULL() {
        due("the 300th", Scenes.roomFor(1).shallow(Scenes.INT_ROW), 299);
        refused("the 301st", Scenes::fullOfThings, g -> g.shallow(Scenes.INT_ROW), FULL);
        refused("without ELEMENTS", Scenes::fullOfThings, g -> g.shallow(Scenes.EMPTY_ROW), FULL);
    }

    // ---- promise 22

    @Sentence("A copy of all that a THING REACHES, but BOXES, which are themselves, shared and in circles alike")
    static void p22_sharedAndInCircles() {
        GraphPhotographer g = Scenes.rich();
        g.set(Scenes.ANY_ROW, 2, Scenes.INT_ROW);
        due("deep(LOOSE)", g.deep(Scenes.LOOSE), 10);
        due("made", g.count(1), 13);
        due("its WORD", Graphs.value(g, 10, 0), 7);
        due("its ROW", Graphs.value(g, 10, 1), 11);
        due("in a circle", Graphs.value(g, 11, 0), 10);
        due("the BOX itself", Graphs.value(g, 11, 1), Scenes.FIVE);
        due("shared", Graphs.value(g, 11, 2), 12);
        due("shared", Graphs.value(g, 11, 3), 12);
        for (int i = 0; i < 3; i++) due("its ints", Graphs.value(g, 12, i), 10 + i);
        due("LIKE", g.like(10, Scenes.LOOSE), 1);
        due("the old one names old ones", Graphs.value(g, Scenes.ANY_ROW, 0), Scenes.LOOSE);
        due("without ELEMENTS", g.deep(Scenes.EMPTY_ROW), 13);
        due("without components", g.deep(Scenes.BARE), 14);
        due("made", g.count(1), 15);
    }

    @Sentence("A copy of all that a THING REACHES, but BOXES, which are themselves, shared and in circles alike")
    static void p22_boxesAreThemselves() {
        refused("one and the same", Scenes::rich, g -> g.deep(Scenes.FIVE), Scenes.FIVE);
        refused("not one and the same", Scenes::rich, g -> g.deep(Scenes.BIG), Scenes.BIG);
        GraphPhotographer g = Scenes.rich();
        g.set(Scenes.ANY_ROW, 1, Scenes.BIG);
        g.deep(Scenes.LOOSE);
        due("behind a ROW", Graphs.value(g, 11, 1), Scenes.BIG);
    }

    @Sentence("(RECORDS SEALED, if they were)")
    static void p22_sealed() {
        GraphPhotographer g = Scenes.rich();
        due("deep(SHUT)", g.deep(Scenes.SHUT), 10);
        due("SEALED", g.sealed(10), 1);
        due("its WORD", Graphs.value(g, 10, 0), -2);
        due("its THING", Graphs.value(g, 10, 1), 11);
        due("LOOSE", g.sealed(11), 0);
        due("LIKE", g.like(10, Scenes.SHUT), 1);
        due("it can not be put", g.put(10, 0, 4, 1), SEALED);
    }

    @Sentence("In the order in which they are come to: it; then the ELEMENTS of each that came, in order.")
    static void p22_order() {
        GraphPhotographer g = new GraphPhotographer();
        int anys = g.rowOf(8);
        // lengths tell them apart; 0 has 2, 1; 2 has 4, 3; 1 has 5
        int[] lengths = {2, 3, 4, 5, 6, 7};
        for (int n : lengths) g.make(anys, n);
        g.set(0, 0, 2);
        g.set(0, 1, 1);
        g.set(2, 0, 4);
        g.set(2, 3, 3);
        g.set(1, 2, 5);
        g.set(5, 6, 0);
        due("deep(0)", g.deep(0), 6);
        int[] want = {2, 4, 3, 6, 5, 7};
        for (int i = 0; i < 6; i++) due("the length of number " + (6 + i), g.length(6 + i), want[i]);
        due("deep(1)", g.deep(1), 12);
        int[] fromOne = {3, 7, 2, 4, 6, 5};
        for (int i = 0; i < 6; i++) due("the length of number " + (12 + i), g.length(12 + i), fromOne[i]);
    }

    @Sentence("UNKNOWN (but NONE)")
    static void p22_UNKNOWN() {
        for (int x : NO_THINGS) refused("deep(" + x + ")", Scenes::rich, g -> g.deep(x), UNKNOWN);
        refused("ahead of FULL", Scenes::fullOfThings, g -> g.deep(Scenes.GONE), UNKNOWN);
    }

    @Sentence("NULL")
    static void p22_NULL() {
        refused("deep(NONE)", Scenes::rich, g -> g.deep(NONE), NULL);
        refused("ahead of FULL", Scenes::fullOfThings, g -> g.deep(NONE), NULL);
    }

    @Sentence("FULL: not all (a BOX: itself).")
    static void p22_FULL_notAll() {
        due("just all: LOOSE, ANY_ROW, INT_ROW", Scenes.roomFor(3).deep(Scenes.LOOSE), 297);
        refused("one too many", () -> Scenes.roomFor(2), g -> g.deep(Scenes.LOOSE), FULL);
        due("just one", Scenes.roomFor(1).deep(Scenes.INT_ROW), 299);
        refused("none", Scenes::fullOfThings, g -> g.deep(Scenes.INT_ROW), FULL);
        refused("none, without ELEMENTS", Scenes::fullOfThings, g -> g.deep(Scenes.EMPTY_ROW), FULL);
    }

    @Sentence("FULL: not all (a BOX: itself).")
    static void p22_FULL_aBoxItself() {
        refused("one and the same", Scenes::fullOfThings, g -> g.deep(Scenes.FIVE), Scenes.FIVE);
        refused("not one and the same", Scenes::fullOfThings, g -> g.deep(Scenes.BIG), Scenes.BIG);
    }
}
