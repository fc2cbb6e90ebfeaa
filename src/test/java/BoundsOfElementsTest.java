/** Promises 13 to 20 and 23, sentence by sentence: what is done to THINGS and told of them. */
public final class BoundsOfElementsTest extends Bounds {
    private static final int[] NO_THINGS = {LEAST, -101, -2, Scenes.GONE, Scenes.UNMADE, 299, 300, MOST};
    private static final long NO_FLOAT = 0x7fc00000L, NO_DOUBLE = 0x7ff8000000000000L;
    private static final int DOUBLE_ROW = 10, OTHER_INTS = 11;

    public static void main(String[] args) throws IllegalAccessException {
        runAll(BoundsOfElementsTest.class);
    }

    /** Rich, with a ROW of 16 doubles and one of 16 ints. */
    private static GraphPhotographer rows() {
        GraphPhotographer g = Scenes.rich();
        g.make(Scenes.DOUBLES, 16);
        g.make(Scenes.INTS, 16);
        return g;
    }

    // ---- promise 13

    @Sentence("A RECORD is SEALED: 0.")
    static void p13_sealed() {
        GraphPhotographer g = Scenes.rich();
        due("seal(LOOSE)", g.seal(Scenes.LOOSE), 0);
        due("sealed(LOOSE)", g.sealed(Scenes.LOOSE), 1);
        due("without components", g.seal(Scenes.BARE), 0);
        due("sealed(BARE)", g.sealed(Scenes.BARE), 1);
        due("its values stay", Graphs.value(g, Scenes.LOOSE, 0), 7);
    }

    @Sentence("UNKNOWN")
    static void p13_UNKNOWN() {
        for (int x : NO_THINGS) refused("seal(" + x + ")", Scenes::rich, g -> g.seal(x), UNKNOWN);
        refused("NONE, too", Scenes::rich, g -> g.seal(NONE), UNKNOWN);
    }

    @Sentence("CAST: it is none")
    static void p13_CAST() {
        for (int x : new int[] {Scenes.INT_ROW, Scenes.ANY_ROW, Scenes.EMPTY_ROW, Scenes.FIVE, Scenes.BIG}) {
            refused("seal(" + x + ")", Scenes::rich, g -> g.seal(x), CAST);
        }
    }

    @Sentence("SEALED already.")
    static void p13_SEALED() {
        refused("seal(SHUT)", Scenes::rich, g -> g.seal(Scenes.SHUT), SEALED);
    }

    // ---- promise 14

    @Sentence("SEEN becomes ELEMENT i (of a BOX 0: its WORD): a WORD: 0; the number of a THING, or NONE: 1.")
    static void p14_seenBecomes() {
        GraphPhotographer g = rows();
        due("a WORD", g.get(Scenes.LOOSE, 0), 0);
        due("it", g.seen(), 7);
        due("a THING", g.get(Scenes.LOOSE, 1), 1);
        due("its number", g.seen(), Scenes.ANY_ROW);
        due("NONE", g.get(Scenes.ANY_ROW, 2), 1);
        due("it", g.seen(), NONE);
        due("the last ELEMENT", g.get(Scenes.ANY_ROW, 3), 1);
        due("it", g.seen(), Scenes.INT_ROW);
        due("a WORD -1 is no NONE", g.put(Scenes.INT_ROW, 2, 4, -1) + g.get(Scenes.INT_ROW, 2), 0);
        due("it", g.seen(), -1);
        due("the 16th", g.put(DOUBLE_ROW, 15, 7, 5) + g.get(DOUBLE_ROW, 15), 0);
        due("it", g.seen(), 5);
        due("of a SEALED one", g.get(Scenes.SHUT, 0), 0);
        due("it", g.seen(), -2);
    }

    @Sentence("SEEN becomes ELEMENT i (of a BOX 0: its WORD): a WORD: 0; the number of a THING, or NONE: 1.")
    static void p14_ofABox() {
        GraphPhotographer g = Scenes.rich();
        due("of a BOX 0", g.get(Scenes.BIG, 0), 0);
        due("its WORD", g.seen(), 1000);
        refused("of a BOX 1", Scenes::rich, h -> h.get(Scenes.BIG, 1), INDEX);
        refused("of a BOX -1", Scenes::rich, h -> h.get(Scenes.BIG, -1), INDEX);
    }

    @Sentence("UNKNOWN (but NONE)")
    static void p14_UNKNOWN() {
        for (int x : NO_THINGS) refused("get(" + x + ", 0)", Scenes::rich, g -> g.get(x, 0), UNKNOWN);
        refused("ahead of INDEX", Scenes::rich, g -> g.get(Scenes.GONE, -1), UNKNOWN);
    }

    @Sentence("NULL: x is NONE")
    static void p14_NULL() {
        refused("get(NONE, 0)", Scenes::rich, g -> g.get(NONE, 0), NULL);
        refused("ahead of INDEX", Scenes::rich, g -> g.get(NONE, -1), NULL);
        refused("of an empty object", GraphPhotographer::new, g -> g.get(NONE, 0), NULL);
    }

    @Sentence("INDEX.")
    static void p14_INDEX() {
        int[][] wrong = {{Scenes.LOOSE, 2}, {Scenes.INT_ROW, 3}, {Scenes.ANY_ROW, 4}, {Scenes.EMPTY_ROW, 0}, {Scenes.BARE, 0},
            {Scenes.SHUT, 2}};
        for (int[] w : wrong) {
            for (int i : new int[] {w[1], w[1] + 1, 16, 300, MOST, -1, LEAST}) {
                refused("get(" + w[0] + ", " + i + ")", Scenes::rich, g -> g.get(w[0], i), INDEX);
            }
        }
        refused("behind sixteen", BoundsOfElementsTest::rows, g -> g.get(DOUBLE_ROW, 16), INDEX);
    }

    // ---- promise 15

    @Sentence("ELEMENT i becomes what a WORD of a PLAIN CLASS k tells, by WIDENING: 0.")
    static void p15_becomes() {
        GraphPhotographer g = rows();
        due("the first one", g.put(DOUBLE_ROW, 0, 4, 3), 0);
        due("it", Graphs.value(g, DOUBLE_ROW, 0), Double.doubleToRawLongBits(3));
        due("the last one", g.put(DOUBLE_ROW, 15, 2, -1), 0);
        due("it", Graphs.value(g, DOUBLE_ROW, 15), Double.doubleToRawLongBits(65535));
        for (int i = 1; i < 15; i++) due("the others", Graphs.value(g, DOUBLE_ROW, i), 0);
        due("of a RECORD", g.put(Scenes.LOOSE, 0, 1, 255), 0);
        due("it", Graphs.value(g, Scenes.LOOSE, 0), -1);
        due("its other one", Graphs.value(g, Scenes.LOOSE, 1), Scenes.ANY_ROW);
    }

    @Sentence("UNKNOWN; OUTSIDE: k, WORD; NULL; CAST: a BOX; SEALED; INDEX; UNLIKE")
    static void p15_UNKNOWN() {
        for (int x : NO_THINGS) refused("put(" + x + ", 0, 4, 1)", Scenes::rich, g -> g.put(x, 0, 4, 1), UNKNOWN);
        refused("ahead of OUTSIDE: k", Scenes::rich, g -> g.put(Scenes.GONE, 0, 8, 1), UNKNOWN);
        refused("ahead of OUTSIDE: WORD", Scenes::rich, g -> g.put(Scenes.GONE, 0, 6, NO_FLOAT), UNKNOWN);
        refused("ahead of INDEX", Scenes::rich, g -> g.put(Scenes.GONE, 9, 4, 1), UNKNOWN);
    }

    @Sentence("OUTSIDE: k, WORD")
    static void p15_OUTSIDE_k() {
        for (int k : new int[] {LEAST, -1, 8, 9, 14, Scenes.NODE, MOST}) {
            refused("k " + k, Scenes::rich, g -> g.put(Scenes.INT_ROW, 0, k, 1), OUTSIDE);
        }
        refused("ahead of NULL", Scenes::rich, g -> g.put(NONE, 0, 8, 1), OUTSIDE);
        refused("ahead of CAST", Scenes::rich, g -> g.put(Scenes.BIG, 0, 8, 1), OUTSIDE);
        refused("ahead of SEALED", Scenes::rich, g -> g.put(Scenes.SHUT, 0, 8, 1), OUTSIDE);
        refused("ahead of INDEX", Scenes::rich, g -> g.put(Scenes.INT_ROW, 3, -1, 1), OUTSIDE);
        refused("ahead of UNLIKE", Scenes::rich, g -> g.put(Scenes.ANY_ROW, 0, 8, 1), OUTSIDE);
    }

    @Sentence("OUTSIDE: k, WORD")
    static void p15_OUTSIDE_word() {
        refused("a double", BoundsOfElementsTest::rows, g -> g.put(DOUBLE_ROW, 0, 7, NO_DOUBLE), OUTSIDE);
        refused("a float", BoundsOfElementsTest::rows, g -> g.put(DOUBLE_ROW, 0, 6, NO_FLOAT), OUTSIDE);
        refused("ahead of NULL", Scenes::rich, g -> g.put(NONE, 0, 7, NO_DOUBLE), OUTSIDE);
        refused("ahead of CAST", Scenes::rich, g -> g.put(Scenes.BIG, 0, 6, NO_FLOAT), OUTSIDE);
        refused("ahead of SEALED", Scenes::rich, g -> g.put(Scenes.SHUT, 0, 7, NO_DOUBLE), OUTSIDE);
        refused("ahead of INDEX", BoundsOfElementsTest::rows, g -> g.put(DOUBLE_ROW, 16, 7, NO_DOUBLE), OUTSIDE);
        refused("ahead of UNLIKE", Scenes::rich, g -> g.put(Scenes.INT_ROW, 0, 7, NO_DOUBLE), OUTSIDE);
    }

    @Sentence("NULL; CAST: a BOX; SEALED; INDEX; UNLIKE")
    static void p15_NULL() {
        refused("put(NONE, 0, 4, 1)", Scenes::rich, g -> g.put(NONE, 0, 4, 1), NULL);
        refused("ahead of INDEX", Scenes::rich, g -> g.put(NONE, -1, 4, 1), NULL);
    }

    @Sentence("CAST: a BOX")
    static void p15_CAST() {
        refused("its own CLASS", Scenes::rich, g -> g.put(Scenes.BIG, 0, 4, 1), CAST);
        refused("its own WORD", Scenes::rich, g -> g.put(Scenes.BIG, 0, 4, 1000), CAST);
        refused("ahead of INDEX", Scenes::rich, g -> g.put(Scenes.FIVE, 1, 4, 1), CAST);
        refused("ahead of UNLIKE", Scenes::rich, g -> g.put(Scenes.FIVE, 0, 5, 1), CAST);
    }

    @Sentence("SEALED; INDEX; UNLIKE")
    static void p15_SEALED() {
        refused("put(SHUT, 0, 4, 1)", Scenes::rich, g -> g.put(Scenes.SHUT, 0, 4, 1), SEALED);
        refused("what it has already", Scenes::rich, g -> g.put(Scenes.SHUT, 0, 4, -2), SEALED);
        refused("ahead of INDEX", Scenes::rich, g -> g.put(Scenes.SHUT, 2, 4, 1), SEALED);
        refused("ahead of UNLIKE", Scenes::rich, g -> g.put(Scenes.SHUT, 1, 4, 1), SEALED);
        refused("without components", BoundsOfElementsTest::bareShut, g -> g.put(Scenes.BARE, 0, 4, 1), SEALED);
    }

    private static GraphPhotographer bareShut() {
        GraphPhotographer g = Scenes.rich();
        g.seal(Scenes.BARE);
        return g;
    }

    @Sentence("INDEX; UNLIKE")
    static void p15_INDEX() {
        for (int i : new int[] {LEAST, -1, 3, 4, 16, MOST}) {
            refused("put(INT_ROW, " + i + ")", Scenes::rich, g -> g.put(Scenes.INT_ROW, i, 4, 1), INDEX);
            refused("ahead of UNLIKE " + i, Scenes::rich, g -> g.put(Scenes.INT_ROW, i, 5, 1), INDEX);
        }
        refused("without ELEMENTS", Scenes::rich, g -> g.put(Scenes.EMPTY_ROW, 0, 4, 1), INDEX);
        refused("without components", Scenes::rich, g -> g.put(Scenes.BARE, 0, 4, 1), INDEX);
        refused("behind sixteen", BoundsOfElementsTest::rows, g -> g.put(DOUBLE_ROW, 16, 7, 1), INDEX);
    }

    @Sentence("UNLIKE: it is not PLAIN, or does not widen to its CLASS.")
    static void p15_UNLIKE() {
        refused("it is not PLAIN", Scenes::rich, g -> g.put(Scenes.LOOSE, 1, 4, 1), UNLIKE);
        refused("it is ANY", Scenes::rich, g -> g.put(Scenes.ANY_ROW, 2, 4, 1), UNLIKE);
        for (int k : new int[] {0, 5, 6, 7}) {
            refused(k + " does not widen", Scenes::rich, g -> g.put(Scenes.INT_ROW, 0, k, 1), UNLIKE);
        }
        refused("a truth does not", BoundsOfElementsTest::rows, g -> g.put(DOUBLE_ROW, 0, 0, 1), UNLIKE);
    }

    // ---- promise 16

    @Sentence("ELEMENT i becomes THING y, or NONE; if it is PLAIN: what is in BOX y, by WIDENING: 0.")
    static void p16_becomes() {
        GraphPhotographer g = rows();
        due("a THING", g.set(Scenes.ANY_ROW, 2, Scenes.EMPTY_ROW), 0);
        due("it", Graphs.value(g, Scenes.ANY_ROW, 2), Scenes.EMPTY_ROW);
        due("itself", g.set(Scenes.ANY_ROW, 3, Scenes.ANY_ROW), 0);
        due("it", Graphs.value(g, Scenes.ANY_ROW, 3), Scenes.ANY_ROW);
        due("NONE", g.set(Scenes.ANY_ROW, 0, NONE), 0);
        due("it", Graphs.value(g, Scenes.ANY_ROW, 0), NONE);
        due("NONE again", g.set(Scenes.ANY_ROW, 0, NONE), 0);
        due("a BOX", g.set(Scenes.ANY_ROW, 0, Scenes.BIG), 0);
        due("itself, not its WORD", Graphs.value(g, Scenes.ANY_ROW, 0), Scenes.BIG);
        due("PLAIN", g.set(DOUBLE_ROW, 15, Scenes.BIG), 0);
        due("its WORD, widened", Graphs.value(g, DOUBLE_ROW, 15), Double.doubleToRawLongBits(1000));
        due("PLAIN, its own CLASS", g.set(Scenes.INT_ROW, 2, Scenes.BIG), 0);
        due("its WORD", Graphs.value(g, Scenes.INT_ROW, 2), 1000);
    }

    @Sentence("UNKNOWN: x, y (but NONE)")
    static void p16_UNKNOWN() {
        for (int z : NO_THINGS) {
            refused("x " + z, Scenes::rich, g -> g.set(z, 0, Scenes.LOOSE), UNKNOWN);
            refused("y " + z, Scenes::rich, g -> g.set(Scenes.ANY_ROW, 0, z), UNKNOWN);
            refused("y ahead of NULL " + z, Scenes::rich, g -> g.set(NONE, 0, z), UNKNOWN);
        }
        refused("y ahead of CAST", Scenes::rich, g -> g.set(Scenes.BIG, 0, Scenes.GONE), UNKNOWN);
        refused("y ahead of SEALED", Scenes::rich, g -> g.set(Scenes.SHUT, 1, Scenes.GONE), UNKNOWN);
        refused("y ahead of INDEX", Scenes::rich, g -> g.set(Scenes.ANY_ROW, 4, Scenes.GONE), UNKNOWN);
        refused("y ahead of UNLIKE", Scenes::rich, g -> g.set(Scenes.INT_ROW, 0, Scenes.GONE), UNKNOWN);
    }

    @Sentence("NULL: x")
    static void p16_NULL_x() {
        refused("set(NONE, 0, LOOSE)", Scenes::rich, g -> g.set(NONE, 0, Scenes.LOOSE), NULL);
        refused("ahead of INDEX", Scenes::rich, g -> g.set(NONE, -1, NONE), NULL);
    }

    @Sentence("CAST: a BOX")
    static void p16_CAST() {
        refused("another BOX", Scenes::rich, g -> g.set(Scenes.BIG, 0, Scenes.FIVE), CAST);
        refused("itself", Scenes::rich, g -> g.set(Scenes.BIG, 0, Scenes.BIG), CAST);
        refused("ahead of INDEX", Scenes::rich, g -> g.set(Scenes.BIG, 1, Scenes.FIVE), CAST);
        refused("ahead of PLAIN: NULL", Scenes::rich, g -> g.set(Scenes.BIG, 0, NONE), CAST);
        refused("ahead of UNLIKE", Scenes::rich, g -> g.set(Scenes.BIG, 0, Scenes.LOOSE), CAST);
    }

    @Sentence("SEALED; INDEX; PLAIN: NULL: y")
    static void p16_SEALED() {
        refused("a THING", Scenes::rich, g -> g.set(Scenes.SHUT, 1, Scenes.LOOSE), SEALED);
        refused("NONE", Scenes::rich, g -> g.set(Scenes.SHUT, 1, NONE), SEALED);
        refused("ahead of INDEX", Scenes::rich, g -> g.set(Scenes.SHUT, 2, NONE), SEALED);
        refused("ahead of PLAIN: NULL", Scenes::rich, g -> g.set(Scenes.SHUT, 0, NONE), SEALED);
        refused("ahead of UNLIKE", Scenes::rich, g -> g.set(Scenes.SHUT, 0, Scenes.LOOSE), SEALED);
        refused("without components", BoundsOfElementsTest::bareShut, g -> g.set(Scenes.BARE, 0, NONE), SEALED);
    }

    @Sentence("INDEX; PLAIN: NULL: y")
    static void p16_INDEX() {
        for (int i : new int[] {LEAST, -1, 4, 16, MOST}) {
            refused("of ANYS " + i, Scenes::rich, g -> g.set(Scenes.ANY_ROW, i, Scenes.LOOSE), INDEX);
            refused("ahead of PLAIN: NULL " + i, Scenes::rich, g -> g.set(Scenes.INT_ROW, i, NONE), INDEX);
            refused("ahead of UNLIKE " + i, Scenes::rich, g -> g.set(Scenes.INT_ROW, i, Scenes.LOOSE), INDEX);
            refused("ahead of STORE " + i, Scenes::rich, g -> g.set(Scenes.NODE_ROW, i, Scenes.BIG), INDEX);
        }
        refused("the first behind", Scenes::rich, g -> g.set(Scenes.INT_ROW, 3, Scenes.BIG), INDEX);
        refused("without ELEMENTS", Scenes::rich, g -> g.set(Scenes.EMPTY_ROW, 0, NONE), INDEX);
        refused("without components", Scenes::rich, g -> g.set(Scenes.BARE, 0, NONE), INDEX);
    }

    @Sentence("PLAIN: NULL: y")
    static void p16_PLAIN_NULL_y() {
        refused("of a ROW", Scenes::rich, g -> g.set(Scenes.INT_ROW, 2, NONE), NULL);
        refused("of a RECORD", Scenes::rich, g -> g.set(Scenes.LOOSE, 0, NONE), NULL);
    }

    @Sentence("UNLIKE; else STORE.")
    static void p16_PLAIN_UNLIKE() {
        refused("no BOX", Scenes::rich, g -> g.set(Scenes.INT_ROW, 0, Scenes.LOOSE), UNLIKE);
        refused("a ROW of ints", Scenes::rich, g -> g.set(Scenes.INT_ROW, 0, Scenes.INT_ROW), UNLIKE);
        for (int k : new int[] {0, 5, 6, 7}) {
            refused(k + " does not widen", () -> withBox(k), g -> g.set(Scenes.INT_ROW, 0, Scenes.UNMADE), UNLIKE);
        }
        for (int k = 1; k < 5; k++) due(k + " widens", withBox(k).set(Scenes.INT_ROW, 0, Scenes.UNMADE), 0);
    }

    private static GraphPhotographer withBox(int k) {
        GraphPhotographer g = Scenes.rich();
        g.box(k, 1);
        return g;
    }

    @Sentence("else STORE.")
    static void p16_STORE() {
        for (int y : new int[] {Scenes.BARE, Scenes.INT_ROW, Scenes.NODE_ROW, Scenes.BIG}) {
            refused("set(NODE_ROW, 0, " + y + ")", Scenes::rich, g -> g.set(Scenes.NODE_ROW, 0, y), STORE);
        }
        GraphPhotographer g = Scenes.rich();
        due("of its CLASS", g.set(Scenes.NODE_ROW, 1, Scenes.LOOSE), 0);
        due("NONE", g.set(Scenes.NODE_ROW, 1, NONE), 0);
        int row = g.make(g.rowOf(Scenes.FACE), 1);
        due("a KIND of the FACE", g.set(row, 0, Scenes.LOOSE), 0);
        due("a KIND without FACES", g.set(row, 0, Scenes.BARE), STORE);
        int boxes = g.make(g.rowOf(15), 1);
        due("BOXES do not widen", g.set(boxes, 0, Scenes.BIG), STORE);
        due("a BOX of its CLASS", g.set(boxes, 0, g.box(5, 1)), 0);
    }

    // ---- promise 17

    @Sentence("n ELEMENTS of ROW x from i on come to ROW y from j on, as if all were taken ahead: 0; SEEN becomes n.")
    static void p17_asIfTakenAhead() {
        for (int i = 0; i < 6; i++) {
            for (int j = 0; j < 6; j++) overItself(i, j, 16 - Math.max(i, j));
        }
        overItself(0, 0, 0);
        overItself(0, 15, 1);
        overItself(15, 0, 1);
    }

    private static void overItself(int i, int j, int n) {
        GraphPhotographer g = rows();
        for (int at = 0; at < 16; at++) g.put(OTHER_INTS, at, 4, 100 + at);
        String call = "copy of itself " + i + ", " + j + ", " + n;
        due(call, g.copy(OTHER_INTS, i, OTHER_INTS, j, n), 0);
        due(call + " SEEN", g.seen(), n);
        for (int at = 0; at < 16; at++) {
            boolean came = at >= j && at < j + n;
            due(call + " ELEMENT " + at, Graphs.value(g, OTHER_INTS, at), 100 + (came ? at - j + i : at));
        }
    }

    @Sentence("n ELEMENTS of ROW x from i on come to ROW y from j on, as if all were taken ahead: 0; SEEN becomes n.")
    static void p17_noneAndAll() {
        GraphPhotographer g = rows();
        due("none, from the end to the end", g.copy(Scenes.INT_ROW, 3, OTHER_INTS, 16, 0), 0);
        due("SEEN", g.seen(), 0);
        due("none of none", g.copy(Scenes.EMPTY_ROW, 0, Scenes.EMPTY_ROW, 0, 0), 0);
        due("all, to the end", g.copy(Scenes.INT_ROW, 0, OTHER_INTS, 13, 3), 0);
        due("SEEN", g.seen(), 3);
        for (int i = 0; i < 3; i++) due("ELEMENT", Graphs.value(g, OTHER_INTS, 13 + i), 10 + i);
        due("the one ahead", Graphs.value(g, OTHER_INTS, 12), 0);
        due("THINGS that fit, and NONE", g.copy(Scenes.NODE_ROW, 0, Scenes.ANY_ROW, 2, 2), 0);
        due("it", Graphs.value(g, Scenes.ANY_ROW, 2), Scenes.SHUT);
        due("NONE", Graphs.value(g, Scenes.ANY_ROW, 3), NONE);
        due("to a CLASS that less IS of", g.copy(Scenes.ANY_ROW, 2, Scenes.NODE_ROW, 0, 2), 0);
    }

    @Sentence("UNKNOWN: x, y (but NONE)")
    static void p17_UNKNOWN() {
        for (int z : NO_THINGS) {
            refused("x " + z, Scenes::rich, g -> g.copy(z, 0, Scenes.INT_ROW, 0, 1), UNKNOWN);
            refused("y " + z, Scenes::rich, g -> g.copy(Scenes.INT_ROW, 0, z, 0, 1), UNKNOWN);
            refused("y ahead of NULL: x " + z, Scenes::rich, g -> g.copy(NONE, 0, z, 0, 1), UNKNOWN);
            refused("x ahead of NULL: y " + z, Scenes::rich, g -> g.copy(z, 0, NONE, 0, 1), UNKNOWN);
        }
        refused("y ahead of CAST", Scenes::rich, g -> g.copy(Scenes.BIG, 0, Scenes.GONE, 0, 1), UNKNOWN);
        refused("y ahead of INDEX", Scenes::rich, g -> g.copy(Scenes.INT_ROW, 9, Scenes.GONE, 0, 1), UNKNOWN);
    }

    @Sentence("NULL: x, then y")
    static void p17_NULL() {
        refused("x", Scenes::rich, g -> g.copy(NONE, 0, Scenes.INT_ROW, 0, 1), NULL);
        refused("y", Scenes::rich, g -> g.copy(Scenes.INT_ROW, 0, NONE, 0, 1), NULL);
        refused("both, one FINDING", Scenes::rich, g -> g.copy(NONE, 0, NONE, 0, 1), NULL);
        refused("x ahead of CAST: y", Scenes::rich, g -> g.copy(NONE, 0, Scenes.BIG, 0, 1), NULL);
        refused("y ahead of CAST: x", Scenes::rich, g -> g.copy(Scenes.BIG, 0, NONE, 0, 1), NULL);
        refused("ahead of INDEX", Scenes::rich, g -> g.copy(NONE, -1, Scenes.INT_ROW, -1, -1), NULL);
    }

    @Sentence("CAST: x, then y is no ROW")
    static void p17_CAST() {
        for (int z : new int[] {Scenes.LOOSE, Scenes.SHUT, Scenes.BARE, Scenes.BIG}) {
            refused("x " + z, Scenes::rich, g -> g.copy(z, 0, Scenes.ANY_ROW, 0, 1), CAST);
            refused("y " + z, Scenes::rich, g -> g.copy(Scenes.ANY_ROW, 0, z, 0, 1), CAST);
            refused("ahead of INDEX " + z, Scenes::rich, g -> g.copy(Scenes.ANY_ROW, 9, z, -1, 1), CAST);
            refused("none of them " + z, Scenes::rich, g -> g.copy(z, 0, z, 0, 0), CAST);
        }
    }

    @Sentence("STORE: ELEMENTS of one are PLAIN, and they are not of one CLASS")
    static void p17_STORE_plain() {
        refused("x's", Scenes::rich, g -> g.copy(Scenes.INT_ROW, 0, Scenes.ANY_ROW, 0, 1), STORE);
        refused("y's", Scenes::rich, g -> g.copy(Scenes.ANY_ROW, 0, Scenes.INT_ROW, 0, 1), STORE);
        refused("both, ints do not widen", BoundsOfElementsTest::rows, g -> g.copy(Scenes.INT_ROW, 0, DOUBLE_ROW, 0, 1), STORE);
        refused("even none", BoundsOfElementsTest::rows, g -> g.copy(Scenes.INT_ROW, 0, DOUBLE_ROW, 0, 0), STORE);
        refused("even none of none", Scenes::rich, g -> g.copy(Scenes.EMPTY_ROW, 0, Scenes.INT_ROW, 0, 0), STORE);
        refused("ahead of INDEX", Scenes::rich, g -> g.copy(Scenes.INT_ROW, 0, Scenes.ANY_ROW, 0, 9), STORE);
        refused("ahead of INDEX, below", Scenes::rich, g -> g.copy(Scenes.ANY_ROW, -1, Scenes.INT_ROW, 0, 1), STORE);
    }

    @Sentence("INDEX; STORE: one does not fit")
    static void p17_INDEX() {
        int[][] wrong = {{-1, 0, 1}, {LEAST, 0, 1}, {0, -1, 1}, {0, LEAST, 1}, {0, 0, -1}, {0, 0, LEAST}, {0, 0, 4}, {1, 0, 3},
            {3, 0, 1}, {4, 0, 0}, {0, 14, 3}, {0, 16, 1}, {0, 17, 0}, {-1, 0, 0}, {0, -1, 0}, {MOST, 0, 1}, {1, 0, MOST},
            {0, MOST, 1}, {0, 1, MOST}, {MOST, MOST, MOST}, {3, 16, -1}};
        for (int[] w : wrong) {
            refused("copy " + w[0] + ", " + w[1] + ", " + w[2], BoundsOfElementsTest::rows,
                    g -> g.copy(Scenes.INT_ROW, w[0], OTHER_INTS, w[1], w[2]), INDEX);
        }
        refused("to one that is shorter", BoundsOfElementsTest::rows, g -> g.copy(OTHER_INTS, 0, Scenes.INT_ROW, 0, 4), INDEX);
        refused("ahead of one that does not fit", Scenes::rich, g -> g.copy(Scenes.ANY_ROW, 1, Scenes.NODE_ROW, 0, 3), INDEX);
        refused("without ELEMENTS", Scenes::rich, g -> g.copy(Scenes.EMPTY_ROW, 0, Scenes.ANY_ROW, 0, 1), INDEX);
    }

    @Sentence("STORE: one does not fit: those ahead of it came, SEEN becomes how many.")
    static void p17_STORE_thoseAheadCame() {
        for (int first = 0; first < 4; first++) {
            GraphPhotographer g = Scenes.rich();
            int to = g.make(Scenes.NODES, 4);
            int from = g.make(Scenes.ANYS, 4);
            for (int i = 0; i < 4; i++) {
                g.set(from, i, i < first ? Scenes.SHUT : Scenes.LOOSE);
                g.set(to, i, Scenes.LOOSE);
            }
            g.set(from, first, Scenes.BIG);
            due("the one at " + first, g.copy(from, 0, to, 0, 4), STORE);
            due("SEEN", g.seen(), first);
            for (int i = 0; i < 4; i++) due("ELEMENT " + i, Graphs.value(g, to, i), i < first ? Scenes.SHUT : Scenes.LOOSE);
            due("findings(4)", g.findings(4), 1);
        }
        refused("the first one: nothing came", Scenes::rich, g -> g.copy(Scenes.ANY_ROW, 1, Scenes.NODE_ROW, 0, 2), STORE,
                "seen()");
    }

    // ---- promises 18, 19, 20

    @Sentence("How many ELEMENTS (of a BOX 1).")
    static void p18_howMany() {
        GraphPhotographer g = rows();
        int[][] want = {{Scenes.LOOSE, 2}, {Scenes.BARE, 0}, {Scenes.INT_ROW, 3}, {Scenes.EMPTY_ROW, 0}, {Scenes.BIG, 1},
            {DOUBLE_ROW, 16}};
        for (int[] w : want) due("length(" + w[0] + ")", g.length(w[0]), w[1]);
    }

    @Sentence("UNKNOWN (but NONE); NULL.")
    static void p18_UNKNOWN_NULL() {
        for (int x : NO_THINGS) refused("length(" + x + ")", Scenes::rich, g -> g.length(x), UNKNOWN);
        refused("length(NONE)", Scenes::rich, g -> g.length(NONE), NULL);
        refused("of an empty object", GraphPhotographer::new, g -> g.length(0), UNKNOWN);
    }

    @Sentence("The CLASS of a THING.")
    static void p19_ofAThing() {
        GraphPhotographer g = rows();
        int[][] want = {{Scenes.LOOSE, Scenes.NODE}, {Scenes.BARE, Scenes.HOLLOW}, {Scenes.INT_ROW, Scenes.INTS},
            {Scenes.EMPTY_ROW, Scenes.ANYS}, {Scenes.BIG, 14}, {DOUBLE_ROW, Scenes.DOUBLES}};
        for (int[] w : want) due("classOf(" + w[0] + ")", g.classOf(w[0]), w[1]);
        for (int k = 0; k < 8; k++) due("a BOX of " + k, g.classOf(g.box(k, 0)), 10 + k);
    }

    @Sentence("UNKNOWN (but NONE); NULL.")
    static void p19_UNKNOWN_NULL() {
        for (int x : NO_THINGS) refused("classOf(" + x + ")", Scenes::rich, g -> g.classOf(x), UNKNOWN);
        refused("classOf(NONE)", Scenes::rich, g -> g.classOf(NONE), NULL);
    }

    @Sentence("Whether a THING is a RECORD that is SEALED: 1, 0.")
    static void p20_whether() {
        GraphPhotographer g = Scenes.rich();
        int[][] want = {{Scenes.LOOSE, 0}, {Scenes.SHUT, 1}, {Scenes.BARE, 0}, {Scenes.INT_ROW, 0}, {Scenes.BIG, 0}};
        for (int[] w : want) due("sealed(" + w[0] + ")", g.sealed(w[0]), w[1]);
        due("without components, SEALED", bareShut().sealed(Scenes.BARE), 1);
    }

    @Sentence("UNKNOWN (but NONE); NULL.")
    static void p20_UNKNOWN_NULL() {
        for (int x : NO_THINGS) refused("sealed(" + x + ")", Scenes::rich, g -> g.sealed(x), UNKNOWN);
        refused("sealed(NONE)", Scenes::rich, g -> g.sealed(NONE), NULL);
    }

    // ---- promise 23

    @Sentence("SEEN.")
    static void p23_asTheLatestCallToldIt() {
        GraphPhotographer g = new GraphPhotographer();
        due("at first", g.seen(), 0);
        int row = g.make(g.rowOf(5), 2);
        g.put(row, 0, 5, Long.MIN_VALUE);
        g.put(row, 1, 5, Long.MAX_VALUE);
        due("put() leaves it", g.seen(), 0);
        g.get(row, 0);
        due("get()", g.seen(), Long.MIN_VALUE);
        due("asking again", g.seen(), Long.MIN_VALUE);
        g.copy(row, 0, row, 0, 2);
        due("copy()", g.seen(), 2);
        g.hash(row);
        due("hash()", g.seen() == 2 ? 1 : 0, 0);
        g.name(0, row);
        g.photo();
        g.entry(0, row, 4);
        due("entry()", g.seen(), Long.MAX_VALUE);
        g.entry(0, row, 1);
        due("what is no value leaves it", g.seen(), Long.MAX_VALUE);
    }
}
