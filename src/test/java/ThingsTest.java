/** Promises 9 to 23: THINGS. */
public final class ThingsTest {
    private static final int UNKNOWN = -101, OUTSIDE = -102, STATE = -103, FULL = -104;
    private static final int NULL = -11, INDEX = -12, SIZE = -13, STORE = -14, UNLIKE = -15, CAST = -16, SEALED = -17;
    private static final Checks CHECKS = new Checks("ThingsTest");

    public static void main(String[] args) {
        making();
        makingWhenFull();
        manyAtOnce();
        manyWhenFull();
        records();
        boxes();
        boxesGone();
        boxesWhenFull();
        sealing();
        getting();
        putting();
        puttingInOrder();
        setting();
        settingInOrder();
        copying();
        copyingOverItself();
        copyingInOrder();
        copyingStopsAtTheFirst();
        askingThree();
        shallowCopies();
        deepCopies();
        deepOrder();
        deepWhenFull();
        seenStays();
        CHECKS.end();
    }

    private static void due(String call, long got, long want) {
        CHECKS.due(call, got, want);
    }

    private static void making() {
        GraphPhotographer g = new GraphPhotographer();
        int ints = g.rowOf(4);
        int anys = g.rowOf(8);
        due("9: make(ints, 3)", g.make(ints, 3), 0);
        due("9: make(anys, 2)", g.make(anys, 2), 1);
        due("9: make(ints, 0)", g.make(ints, 0), 2);
        due("9: make(ints, 16)", g.make(ints, 16), 3);
        due("9: length", g.length(3), 16);
        due("9: PLAIN at first", g.get(0, 2), 0);
        due("9: 0", g.seen(), 0);
        due("9: REFERENCE at first", g.get(1, 1), 1);
        due("9: NONE", g.seen(), -1);
        due("9: make(9, 1)", g.make(9, 1), UNKNOWN);
        due("9: UNKNOWN ahead", g.make(99, 17), UNKNOWN);
        due("9: make(4, 1)", g.make(4, 1), OUTSIDE);
        due("9: make(14, 1)", g.make(14, 1), OUTSIDE);
        due("9: make(node, 1)", g.make(Graphs.node(g), 1), OUTSIDE);
        due("9: make(ints, 17)", g.make(ints, 17), OUTSIDE);
        due("9: OUTSIDE ahead of SIZE", g.make(4, -1), OUTSIDE);
        due("9: make(ints, -1)", g.make(ints, -1), SIZE);
        due("9: make(ints, MIN)", g.make(ints, Integer.MIN_VALUE), SIZE);
        due("9: nothing was made", g.count(1), 4);
    }

    private static void makingWhenFull() {
        GraphPhotographer g = new GraphPhotographer();
        Graphs.fill(g, 1);
        int row = g.rowOf(4);
        due("9: the 300th", g.make(row, 1), 299);
        due("9: the 301st", g.make(row, 1), FULL);
        due("9: FULL ahead of SIZE", g.make(row, -1), FULL);
        due("9: OUTSIDE ahead of FULL", g.make(row, 17), OUTSIDE);
        g.sweep();
        due("9: numbers do not come twice", g.make(row, 1), FULL);
    }

    private static void manyAtOnce() {
        GraphPhotographer g = new GraphPhotographer();
        int ints = g.rowOf(4);
        int rows = g.rowOf(ints);
        int anys = g.rowOf(8);
        due("10: multi(rows, 3, 2)", g.multi(rows, 3, 2), 0);
        due("10: count(1)", g.count(1), 4);
        for (int i = 0; i < 3; i++) {
            due("10: ELEMENT", g.get(0, i), 1);
            due("10: in order", g.seen(), 1 + i);
            due("10: its CLASS", g.classOf(1 + i), ints);
            due("10: its length", g.length(1 + i), 2);
        }
        due("10: CLASS", g.classOf(0), rows);
        due("10: multi(rows, 0, 5)", g.multi(rows, 0, 5), 4);
        due("10: multi(rows, 8, 8)", g.multi(rows, 8, 8), 5);
        due("10: multi(rows, 1, 0)", g.multi(rows, 1, 0), 14);
        due("10: multi(9, 1, 1)", g.multi(9, 1, 1), UNKNOWN);
        due("10: UNKNOWN ahead", g.multi(99, 9, 9), UNKNOWN);
        due("10: multi(ints, 1, 1)", g.multi(ints, 1, 1), OUTSIDE);
        due("10: multi(anys, 1, 1)", g.multi(anys, 1, 1), OUTSIDE);
        due("10: multi(4, 1, 1)", g.multi(4, 1, 1), OUTSIDE);
        due("10: multi(rows, 9, 1)", g.multi(rows, 9, 1), OUTSIDE);
        due("10: multi(rows, 1, 9)", g.multi(rows, 1, 9), OUTSIDE);
        due("10: OUTSIDE ahead of SIZE", g.multi(rows, -1, 9), OUTSIDE);
        due("10: multi(rows, -1, 1)", g.multi(rows, -1, 1), SIZE);
        due("10: multi(rows, 1, -1)", g.multi(rows, 1, -1), SIZE);
        due("10: multi(rows, 0, -1)", g.multi(rows, 0, -1), SIZE);
        due("10: multi(rows, MIN, MIN)", g.multi(rows, Integer.MIN_VALUE, Integer.MIN_VALUE), SIZE);
        due("10: one FINDING each", g.findings(3), 4);
        due("10: nothing was made", g.count(1), 16);
    }

    private static void manyWhenFull() {
        GraphPhotographer g = new GraphPhotographer();
        int rows = g.rowOf(g.rowOf(4));
        Graphs.fill(g, 3);
        due("10: not all", g.multi(rows, 3, 1), FULL);
        due("10: FULL ahead of SIZE", g.multi(rows, 3, -1), FULL);
        due("10: nothing was made", g.count(1), 297);
        due("10: just all", g.multi(rows, 2, 1), 297);
        due("10: none more", g.multi(rows, 0, 1), FULL);
    }

    private static void records() {
        GraphPhotographer g = new GraphPhotographer();
        int k = Graphs.node(g);
        int empty = g.kind(0);
        due("11: OPEN", g.record(empty), STATE);
        g.close(empty);
        due("11: record(k)", g.record(k), 0);
        due("11: LOOSE", g.sealed(0), 0);
        due("11: length", g.length(0), 2);
        due("11: CLASS", g.classOf(0), k);
        due("11: a WORD", g.get(0, 0), 0);
        due("11: 0", g.seen(), 0);
        due("11: a THING", g.get(0, 1), 1);
        due("11: NONE", g.seen(), -1);
        due("11: without components", g.record(empty), 1);
        due("11: length", g.length(1), 0);
        due("11: record(9)", g.record(9), UNKNOWN);
        due("11: record(4)", g.record(4), OUTSIDE);
        due("11: record(14)", g.record(14), OUTSIDE);
        due("11: a FACE", g.record(g.face()), OUTSIDE);
        int open = g.kind(0);
        Graphs.fill(g, 0);
        due("11: STATE ahead of FULL", g.record(open), STATE);
        due("11: FULL", g.record(k), FULL);
    }

    private static void boxes() {
        GraphPhotographer g = new GraphPhotographer();
        due("12: truth", g.box(0, 1), 0);
        due("12: its lowest bit", g.box(0, 3), 0);
        due("12: the other one", g.box(0, 2), 1);
        due("12: byte", g.box(1, 300), 2);
        due("12: like", g.box(1, 44), 2);
        due("12: char 127", g.box(2, 127), 3);
        due("12: again", g.box(2, 127), 3);
        due("12: char 128", g.box(2, 128), 4);
        due("12: again", g.box(2, 128), 5);
        due("12: short -128", g.box(3, -128), 6);
        due("12: again", g.box(3, -128), 6);
        due("12: short -129", g.box(3, -129), 7);
        due("12: again", g.box(3, -129), 8);
        due("12: int 127", g.box(4, 127), 9);
        due("12: like WORDS", g.box(4, 127 + (1L << 32)), 9);
        due("12: int 128", g.box(4, 128), 10);
        due("12: again", g.box(4, 128), 11);
        due("12: long -128", g.box(5, -128), 12);
        due("12: again", g.box(5, -128), 12);
        due("12: long 1 << 32", g.box(5, 1L << 32), 13);
        due("12: again", g.box(5, 1L << 32), 14);
        due("12: float 0", g.box(6, 0), 15);
        due("12: again", g.box(6, 0), 16);
        due("12: double 0", g.box(7, 0), 17);
        due("12: again", g.box(7, 0), 18);
        due("12: another CLASS", g.box(3, 127), 19);
        due("12: its CLASS", g.classOf(19), 13);
        due("12: its WORD", g.get(2, 0), 0);
        due("12: told", g.seen(), 44);
        due("12: box(8, 0)", g.box(8, 0), OUTSIDE);
        due("12: box(-1, 0)", g.box(-1, 0), OUTSIDE);
        due("12: box(14, 0)", g.box(14, 0), OUTSIDE);
        due("12: no number", g.box(6, 0x7fc00000L), OUTSIDE);
        due("12: no number", g.box(7, 0x7ff8000000000000L), OUTSIDE);
    }

    private static void boxesGone() {
        GraphPhotographer g = new GraphPhotographer();
        due("12: box(4, 5)", g.box(4, 5), 0);
        due("2: sweep()", g.sweep(), 1);
        due("12: as long as that is there", g.box(4, 5), 1);
        due("12: and then it", g.box(4, 5), 1);
    }

    private static void boxesWhenFull() {
        GraphPhotographer g = new GraphPhotographer();
        int five = g.box(4, 5);
        Graphs.fill(g, 0);
        due("12: the one there is", g.box(4, 5), five);
        due("12: a new one", g.box(4, 6), FULL);
        due("12: OUTSIDE ahead", g.box(6, 0x7fc00000L), OUTSIDE);
    }

    private static void sealing() {
        GraphPhotographer g = new GraphPhotographer();
        int x = g.record(Graphs.node(g));
        int row = g.make(g.rowOf(4), 1);
        int box = g.box(4, 1);
        due("13: seal(99)", g.seal(99), UNKNOWN);
        due("13: seal(NONE)", g.seal(-1), UNKNOWN);
        due("13: a ROW", g.seal(row), CAST);
        due("13: a BOX", g.seal(box), CAST);
        due("13: seal(x)", g.seal(x), 0);
        due("13: sealed(x)", g.sealed(x), 1);
        due("13: again", g.seal(x), SEALED);
        due("13: findings", g.findings(7), 1);
    }

    private static void getting() {
        GraphPhotographer g = new GraphPhotographer();
        int x = g.record(Graphs.node(g));
        int box = g.box(4, 77);
        g.put(x, 0, 4, -6);
        g.set(x, 1, box);
        due("14: a WORD", g.get(x, 0), 0);
        due("14: it", g.seen(), -6);
        due("14: a THING", g.get(x, 1), 1);
        due("14: its number", g.seen(), box);
        due("14: of a BOX", g.get(box, 0), 0);
        due("14: its WORD", g.seen(), 77);
        due("14: of a BOX 1", g.get(box, 1), INDEX);
        due("14: 2", g.get(x, 2), INDEX);
        due("14: -1", g.get(x, -1), INDEX);
        due("14: NONE", g.get(-1, 9), NULL);
        due("14: -2", g.get(-2, 0), UNKNOWN);
        due("14: 99", g.get(99, 0), UNKNOWN);
        due("14: SEEN as it was", g.seen(), 77);
    }

    private static void putting() {
        GraphPhotographer g = new GraphPhotographer();
        int doubles = g.make(g.rowOf(7), 3);
        due("15: an int", g.put(doubles, 1, 4, 3), 0);
        due("15: as a double", Graphs.value(g, doubles, 1), Double.doubleToLongBits(3));
        due("15: a float", g.put(doubles, 2, 6, Float.floatToIntBits(1.5f)), 0);
        due("15: as a double", Graphs.value(g, doubles, 2), Double.doubleToLongBits(1.5));
        due("15: the others as they were", Graphs.value(g, doubles, 0), 0);
        int x = g.record(Graphs.node(g));
        due("15: of a RECORD", g.put(x, 0, 2, -1), 0);
        due("15: char to int", Graphs.value(g, x, 0), 65535);
        due("15: not PLAIN", g.put(x, 1, 4, 1), UNLIKE);
        due("15: does not widen", g.put(x, 0, 5, 1), UNLIKE);
        due("15: as it was", Graphs.value(g, x, 0), 65535);
    }

    private static void puttingInOrder() {
        GraphPhotographer g = new GraphPhotographer();
        int x = g.record(Graphs.node(g));
        int box = g.box(4, 1);
        g.seal(x);
        due("15: UNKNOWN", g.put(99, 9, 9, 0), UNKNOWN);
        due("15: OUTSIDE: k", g.put(-1, 9, 8, 0), OUTSIDE);
        due("15: OUTSIDE: k below", g.put(-1, 9, -1, 0), OUTSIDE);
        due("15: OUTSIDE: WORD", g.put(-1, 9, 6, 0x7fc00000L), OUTSIDE);
        due("15: NULL", g.put(-1, 9, 4, 0), NULL);
        due("15: CAST", g.put(box, 9, 4, 0), CAST);
        due("15: SEALED", g.put(x, 9, 4, 0), SEALED);
        int y = g.record(g.classOf(x));
        due("15: INDEX", g.put(y, 2, 5, 0), INDEX);
        due("15: INDEX below", g.put(y, -1, 5, 0), INDEX);
        due("15: UNLIKE", g.put(y, 0, 5, 0), UNLIKE);
        due("15: a BOX is as it was", Graphs.value(g, box, 0), 1);
    }

    private static void setting() {
        GraphPhotographer g = new GraphPhotographer();
        int face = g.face();
        int k = g.kind(1);
        g.component(k, 6);
        g.component(k, face);
        g.close(k);
        int x = g.record(k);
        int other = g.record(Graphs.node(g));
        int shorts = g.box(3, 300);
        due("16: itself", g.set(x, 1, x), 0);
        due("16: it", Graphs.value(g, x, 1), x);
        due("16: another CLASS", g.set(x, 1, other), STORE);
        due("16: a BOX", g.set(x, 1, shorts), STORE);
        due("16: as it was", Graphs.value(g, x, 1), x);
        due("16: NONE", g.set(x, 1, -1), 0);
        due("16: it", Graphs.value(g, x, 1), -1);
        due("16: PLAIN: what is in a BOX", g.set(x, 0, shorts), 0);
        due("16: as a float", Graphs.value(g, x, 0), Float.floatToIntBits(300));
        due("16: PLAIN: NULL", g.set(x, 0, -1), NULL);
        due("16: PLAIN: no BOX", g.set(x, 0, other), UNLIKE);
        due("16: PLAIN: does not widen", g.set(x, 0, g.box(7, 0)), UNLIKE);
        due("16: ANY takes a BOX", g.set(other, 1, shorts), 0);
        due("16: and a ROW", g.set(other, 1, g.make(g.rowOf(4), 0)), 0);
        int row = g.make(g.rowOf(16), 1);
        due("16: a BOX into a ROW of its BOXES", g.set(row, 0, g.box(6, 0)), 0);
        due("16: REFERENCES do not widen", g.set(row, 0, shorts), STORE);
    }

    private static void settingInOrder() {
        GraphPhotographer g = new GraphPhotographer();
        int x = g.record(Graphs.node(g));
        int y = g.record(g.classOf(x));
        int box = g.box(4, 1);
        g.seal(x);
        due("16: UNKNOWN: x", g.set(99, 9, -1), UNKNOWN);
        due("16: UNKNOWN: y ahead of NULL", g.set(-1, 9, 99), UNKNOWN);
        due("16: UNKNOWN: y below NONE", g.set(-1, 9, -2), UNKNOWN);
        due("16: NULL: x", g.set(-1, 9, -1), NULL);
        due("16: CAST", g.set(box, 9, -1), CAST);
        due("16: SEALED", g.set(x, 9, -1), SEALED);
        due("16: INDEX", g.set(y, 2, -1), INDEX);
        due("16: INDEX below", g.set(y, -1, -1), INDEX);
        due("16: NULL: y", g.set(y, 0, -1), NULL);
        due("16: UNLIKE", g.set(y, 0, x), UNLIKE);
    }

    private static void copying() {
        GraphPhotographer g = new GraphPhotographer();
        int row = g.rowOf(4);
        int x = g.make(row, 4);
        int y = g.make(row, 5);
        for (int i = 0; i < 4; i++) g.put(x, i, 4, 10 + i);
        due("17: copy(x, 1, y, 2, 3)", g.copy(x, 1, y, 2, 3), 0);
        due("17: SEEN", g.seen(), 3);
        long[] want = {0, 0, 11, 12, 13};
        for (int i = 0; i < 5; i++) due("17: ELEMENT " + i, Graphs.value(g, y, i), want[i]);
        due("17: none", g.copy(x, 4, y, 5, 0), 0);
        due("17: SEEN", g.seen(), 0);
        int rows = g.rowOf(row);
        int anys = g.rowOf(8);
        int a = g.multi(rows, 2, 0);
        int b = g.make(anys, 2);
        due("17: up", g.copy(a, 0, b, 0, 2), 0);
        due("17: it", Graphs.value(g, b, 1), a + 2);
        due("17: down, as it fits", g.copy(b, 1, a, 0, 1), 0);
        due("17: it", Graphs.value(g, a, 0), a + 2);
    }

    private static void copyingOverItself() {
        for (int forth = 0; forth < 2; forth++) {
            GraphPhotographer g = new GraphPhotographer();
            int x = g.make(g.rowOf(4), 5);
            for (int i = 0; i < 5; i++) g.put(x, i, 4, i);
            due("17: over itself", forth == 1 ? g.copy(x, 0, x, 1, 4) : g.copy(x, 1, x, 0, 4), 0);
            long[] want = forth == 1 ? new long[] {0, 0, 1, 2, 3} : new long[] {1, 2, 3, 4, 4};
            for (int i = 0; i < 5; i++) due("17: ELEMENT " + i, Graphs.value(g, x, i), want[i]);
        }
    }

    private static void copyingInOrder() {
        GraphPhotographer g = new GraphPhotographer();
        int ints = g.make(g.rowOf(4), 2);
        int longs = g.make(g.rowOf(5), 2);
        int anys = g.make(g.rowOf(8), 2);
        int record = g.record(Graphs.node(g));
        int box = g.box(4, 1);
        due("17: UNKNOWN: x", g.copy(99, 0, -1, 0, 9), UNKNOWN);
        due("17: UNKNOWN: y", g.copy(-1, 0, 99, 0, 9), UNKNOWN);
        due("17: NULL: x", g.copy(-1, 0, box, 0, 9), NULL);
        due("17: NULL: y", g.copy(box, 0, -1, 0, 9), NULL);
        due("17: CAST: x", g.copy(record, 0, ints, 0, 9), CAST);
        due("17: CAST: y", g.copy(ints, 0, box, 0, 9), CAST);
        due("17: STORE: two PLAIN ones", g.copy(ints, 0, longs, 0, 9), STORE);
        due("17: STORE: one PLAIN", g.copy(ints, 0, anys, 0, 9), STORE);
        due("17: STORE: the other one", g.copy(anys, 0, ints, 0, 0), STORE);
        int[][] wrong = {{-1, 0, 1}, {0, -1, 1}, {0, 0, -1}, {0, 0, 3}, {2, 0, 1}, {0, 2, 1}, {3, 0, 0}, {0, 3, 0},
            {Integer.MAX_VALUE, 0, 1}, {1, 0, Integer.MAX_VALUE}, {0, Integer.MAX_VALUE, Integer.MAX_VALUE}};
        g.copy(ints, 0, ints, 0, 2);
        for (int[] w : wrong) due("17: INDEX " + w[0] + " " + w[1] + " " + w[2], g.copy(ints, w[0], ints, w[1], w[2]), INDEX);
        due("17: SEEN as it was", g.seen(), 2);
        due("17: findings", g.findings(2), wrong.length);
    }

    private static void copyingStopsAtTheFirst() {
        GraphPhotographer g = new GraphPhotographer();
        int k = Graphs.node(g);
        int a = g.record(k);
        int x = g.make(g.rowOf(8), 4);
        int y = g.make(g.rowOf(k), 4);
        int box = g.box(4, 1);
        g.set(x, 0, a);
        g.set(x, 2, box);
        g.set(x, 3, a);
        due("17: INDEX ahead of one that does not fit", g.copy(x, 2, y, 0, 3), INDEX);
        due("17: one does not fit", g.copy(x, 0, y, 0, 4), STORE);
        due("17: how many came", g.seen(), 2);
        due("17: came", Graphs.value(g, y, 0), a);
        due("17: did not come", Graphs.value(g, y, 3), -1);
        due("17: the first does not fit", g.copy(x, 2, y, 0, 2), STORE);
        due("17: none came", g.seen(), 0);
        due("17: as it was", Graphs.value(g, y, 0), a);
    }

    private static void askingThree() {
        GraphPhotographer g = new GraphPhotographer();
        int x = g.record(Graphs.node(g));
        int row = g.make(g.rowOf(4), 7);
        int box = g.box(5, 1);
        due("18: RECORD", g.length(x), 2);
        due("18: ROW", g.length(row), 7);
        due("18: BOX", g.length(box), 1);
        due("18: NONE", g.length(-1), NULL);
        due("18: 99", g.length(99), UNKNOWN);
        due("18: -2", g.length(-2), UNKNOWN);
        due("19: RECORD", g.classOf(x), 20);
        due("19: ROW", g.classOf(row), 21);
        due("19: BOX", g.classOf(box), 15);
        due("19: NONE", g.classOf(-1), NULL);
        due("19: 99", g.classOf(99), UNKNOWN);
        g.seal(x);
        due("20: RECORD", g.sealed(x), 1);
        due("20: ROW", g.sealed(row), 0);
        due("20: BOX", g.sealed(box), 0);
        due("20: NONE", g.sealed(-1), NULL);
        due("20: 99", g.sealed(99), UNKNOWN);
        due("18: findings", g.findings(1), 3);
        g.sweep();
        due("18: GONE", g.length(row), UNKNOWN);
        due("19: GONE", g.classOf(x), UNKNOWN);
        due("20: GONE", g.sealed(x), UNKNOWN);
    }

    private static void shallowCopies() {
        GraphPhotographer g = new GraphPhotographer();
        int x = g.record(Graphs.node(g));
        int row = g.make(g.rowOf(8), 2);
        g.set(row, 1, row);
        g.set(row, 0, x);
        due("21: a RECORD", g.shallow(x), x);
        due("21: a BOX", g.shallow(g.box(4, 1)), 2);
        due("21: a ROW", g.shallow(row), 3);
        due("21: its CLASS", g.classOf(3), g.classOf(row));
        due("21: ELEMENT 0", Graphs.value(g, 3, 0), x);
        due("21: ELEMENT 1 is the old one", Graphs.value(g, 3, 1), row);
        g.set(3, 0, -1);
        due("21: it is another one", Graphs.value(g, row, 0), x);
        due("21: NONE", g.shallow(-1), NULL);
        due("21: 99", g.shallow(99), UNKNOWN);
        Graphs.fill(g, 0);
        due("21: FULL", g.shallow(row), FULL);
        due("21: a RECORD itself", g.shallow(x), x);
        due("21: a BOX itself", g.shallow(2), 2);
        due("21: NULL", g.shallow(-1), NULL);
    }

    private static void deepCopies() {
        GraphPhotographer g = new GraphPhotographer();
        int k = Graphs.node(g);
        int a = g.record(k);
        int row = g.make(g.rowOf(8), 4);
        int box = g.box(4, 1000);
        int b = g.record(k);
        g.put(a, 0, 4, 5);
        g.set(a, 1, row);
        g.set(row, 0, a);
        g.set(row, 1, b);
        g.set(row, 2, box);
        g.set(row, 3, b);
        g.seal(b);
        due("22: deep(a)", g.deep(a), 4);
        due("22: how many", g.count(1), 7);
        due("22: its WORD", Graphs.value(g, 4, 0), 5);
        due("22: its ROW", Graphs.value(g, 4, 1), 5);
        due("22: in a circle", Graphs.value(g, 5, 0), 4);
        due("22: b's", Graphs.value(g, 5, 1), 6);
        due("22: the BOX itself", Graphs.value(g, 5, 2), box);
        due("22: shared", Graphs.value(g, 5, 3), 6);
        due("22: SEALED", g.sealed(6), 1);
        due("22: LOOSE", g.sealed(4), 0);
        due("22: LIKE", g.like(a, 4), 1);
        due("22: of a BOX", g.deep(box), box);
        due("22: NONE", g.deep(-1), NULL);
        due("22: 99", g.deep(99), UNKNOWN);
        due("22: the old one is as it was", Graphs.value(g, row, 0), a);
    }

    /** ELEMENTS of each that came, in order: those of the first one are numbered ahead of what these have. */
    private static void deepOrder() {
        GraphPhotographer g = new GraphPhotographer();
        int anys = g.rowOf(8);
        int[] sizes = {2, 1, 3, 5, 4};
        for (int n : sizes) g.make(anys, n);
        g.set(0, 0, 1);
        g.set(0, 1, 2);
        g.set(1, 0, 3);
        g.set(2, 2, 4);
        g.set(2, 1, 0);
        due("22: deep(0)", g.deep(0), 5);
        for (int i = 0; i < 5; i++) due("22: the " + i + ". to come", g.length(5 + i), sizes[i]);
    }

    private static void deepWhenFull() {
        GraphPhotographer g = new GraphPhotographer();
        int x = g.multi(g.rowOf(g.rowOf(4)), 3, 1);
        int box = g.box(4, 1);
        Graphs.fill(g, 3);
        due("22: not all", g.deep(x), FULL);
        due("22: nothing was made", g.count(1), 297);
        g.set(x, 0, -1);
        due("22: just all", g.deep(x), 297);
        due("22: none more", g.deep(x), FULL);
        due("22: a BOX: itself", g.deep(box), box);
        due("22: NULL", g.deep(-1), NULL);
    }

    private static void seenStays() {
        GraphPhotographer g = new GraphPhotographer();
        int x = g.make(g.rowOf(5), 1);
        due("23: at first", g.seen(), 0);
        g.put(x, 0, 5, Long.MIN_VALUE);
        due("23: put() leaves it", g.seen(), 0);
        g.get(x, 0);
        due("23: a whole long", g.seen(), Long.MIN_VALUE);
        g.get(x, 1);
        g.length(x);
        due("23: it stays", g.seen(), Long.MIN_VALUE);
    }
}
