/** Promises 24 to 27: likeness. */
public final class LikenessTest {
    private static final int UNKNOWN = -101, NULL = -11;
    private static final Checks CHECKS = new Checks("LikenessTest");

    public static void main(String[] args) {
        whatTellsApart();
        circles();
        circlesOfTwoLengths();
        lateDifference();
        longChain();
        wrongOnes();
        hashes();
        hashDepth();
        leastOnes();
        groupsOfAll();
        groupsOfWords();
        CHECKS.end();
    }

    private static void due(String call, long got, long want) {
        CHECKS.due(call, got, want);
    }

    private static void whatTellsApart() {
        GraphPhotographer g = new GraphPhotographer();
        int k = Graphs.node(g);
        int l = Graphs.node(g);
        int a = g.record(k);
        int b = g.record(k);
        int c = g.record(l);
        due("24: itself", g.like(a, a), 1);
        due("24: like", g.like(a, b), 1);
        due("24: CLASS", g.like(a, c), 0);
        g.put(b, 0, 4, 1);
        due("24: WORD", g.like(a, b), 0);
        g.put(a, 0, 4, 1);
        due("24: WORDS", g.like(a, b), 1);
        g.seal(a);
        due("24: SEALED", g.like(a, b), 0);
        g.seal(b);
        due("24: both SEALED", g.like(a, b), 1);
        int row = g.rowOf(8);
        int x = g.make(row, 2);
        int y = g.make(row, 2);
        int z = g.make(row, 3);
        due("24: length", g.like(x, z), 0);
        due("24: as long", g.like(x, y), 1);
        g.set(x, 0, a);
        due("24: NONE", g.like(x, y), 0);
        due("24: NONE, the other way", g.like(y, x), 0);
        g.set(y, 0, b);
        due("24: THINGS that are LIKE", g.like(x, y), 1);
        int p = g.box(4, 500);
        int q = g.box(4, 500);
        int r = g.box(4, 501);
        due("24: BOXES", g.like(p, q), 1);
        due("24: other WORD", g.like(p, r), 0);
        due("24: other CLASS", g.like(p, g.box(5, 500)), 0);
        g.set(x, 1, p);
        g.set(y, 1, r);
        due("24: some way tells them apart", g.like(x, y), 0);
        g.set(y, 1, q);
        due("24: none does", g.like(x, y), 1);
        due("24: floats 0 and -0 have other WORDS", g.like(g.box(6, 0), g.box(6, 0x80000000L)), 0);
        int ints = g.make(g.rowOf(4), 0);
        due("24: empty ROWS of two CLASSES", g.like(ints, g.make(row, 0)), 0);
    }

    private static void circles() {
        GraphPhotographer g = new GraphPhotographer();
        int k = Graphs.node(g);
        int a = g.record(k);
        int b = g.record(k);
        int c = g.record(k);
        g.set(a, 1, a);
        g.set(b, 1, c);
        g.set(c, 1, b);
        due("24: one in a circle, two in a circle", g.like(a, b), 1);
        due("24: the two", g.like(b, c), 1);
        g.put(c, 0, 4, 1);
        due("24: told apart by a WORD behind", g.like(a, b), 0);
        due("24: the two", g.like(b, c), 0);
    }

    private static void circlesOfTwoLengths() {
        GraphPhotographer g = new GraphPhotographer();
        int k = Graphs.node(g);
        for (int i = 0; i < 5; i++) g.record(k);
        for (int i = 0; i < 2; i++) g.set(i, 1, (i + 1) % 2);
        for (int i = 0; i < 3; i++) g.set(2 + i, 1, 2 + (i + 1) % 3);
        due("24: circles of two and three", g.like(0, 2), 1);
        due("27: one group", g.groups(), 1);
        g.put(0, 0, 4, 1);
        g.put(2, 0, 4, 1);
        due("24: with WORDS in turn", g.like(0, 2), 0);
        due("27: five groups", g.groups(), 5);
    }

    private static void lateDifference() {
        GraphPhotographer g = new GraphPhotographer();
        int k = Graphs.node(g);
        for (int i = 0; i < 40; i++) g.record(k);
        for (int i = 0; i < 19; i++) {
            g.set(i, 1, i + 1);
            g.set(20 + i, 1, 21 + i);
        }
        due("24: chains", g.like(0, 20), 1);
        due("24: another place in it", g.like(0, 21), 0);
        due("27: a group a place", g.groups(), 20);
        g.put(39, 0, 4, 9);
        due("24: told apart at the end", g.like(0, 20), 0);
        due("27: no two", g.groups(), 40);
        due("26: least", g.least(20), 20);
    }

    private static void longChain() {
        GraphPhotographer g = new GraphPhotographer();
        int k = Graphs.node(g);
        g.record(k);
        int end = 0;
        // each time a copy hangs behind: 256 in one chain
        for (int i = 0; i < 8; i++) {
            int copy = g.deep(0);
            g.set(end, 1, copy);
            end = g.count(1) - 1;
        }
        due("22: made", g.count(1), 256);
        due("27: groups", g.groups(), 256);
        g.set(end, 1, 0);
        due("27: in a circle", g.groups(), 1);
        due("26: least", g.least(255), 0);
    }

    private static void wrongOnes() {
        GraphPhotographer g = new GraphPhotographer();
        int a = g.record(Graphs.node(g));
        due("24: UNKNOWN ahead of NULL", g.like(-1, 99), UNKNOWN);
        due("24: UNKNOWN: x", g.like(99, a), UNKNOWN);
        due("24: UNKNOWN: y", g.like(a, -2), UNKNOWN);
        due("24: NULL: x", g.like(-1, a), NULL);
        due("24: NULL: y", g.like(a, -1), NULL);
        due("24: NULL once", g.like(-1, -1), NULL);
        due("25: UNKNOWN", g.hash(99), UNKNOWN);
        due("25: NULL", g.hash(-1), NULL);
        due("26: UNKNOWN", g.least(99), UNKNOWN);
        due("26: NULL", g.least(-1), NULL);
        due("42: findings", g.findings(1), 5);
        due("23: SEEN as it was", g.seen(), 0);
    }

    private static long mix(long... numbers) {
        long h = 17;
        for (long n : numbers) h = 31 * h + n;
        return h;
    }

    private static void hashes() {
        GraphPhotographer g = new GraphPhotographer();
        int k = Graphs.node(g);
        int a = g.record(k);
        int box = g.box(5, Long.MIN_VALUE + 3);
        g.put(a, 0, 4, -7);
        due("25: hash(a)", g.hash(a), 0);
        due("25: with NONE", g.seen(), mix(k, 2, -7, -1));
        g.set(a, 1, box);
        g.hash(a);
        due("25: with a BOX", g.seen(), mix(k, 2, -7, mix(15, 1, Long.MIN_VALUE + 3)));
        g.hash(box);
        due("25: a BOX", g.seen(), mix(15, 1, Long.MIN_VALUE + 3));
        int empty = g.make(g.rowOf(4), 0);
        g.hash(empty);
        due("25: an empty ROW", g.seen(), mix(21, 0));
        long before = g.seen();
        g.seal(a);
        g.hash(a);
        due("25: SEALED does not count", g.seen(), mix(k, 2, -7, mix(15, 1, Long.MIN_VALUE + 3)));
        due("25: another one", before == g.seen() ? 1 : 0, 0);
    }

    private static void hashDepth() {
        GraphPhotographer g = new GraphPhotographer();
        int k = Graphs.node(g);
        int a = g.record(k);
        g.put(a, 0, 4, 6);
        g.set(a, 1, a);
        g.hash(a);
        due("25: depth 3, in a circle", g.seen(), mix(k, 2, 6, mix(k, 2, 6, mix(k, 2, 6, k))));
    }

    private static void leastOnes() {
        GraphPhotographer g = new GraphPhotographer();
        int k = Graphs.node(g);
        int keeper = g.make(g.rowOf(8), 3);
        int a = g.box(4, 500);
        int b = g.box(4, 600);
        int c = g.box(4, 500);
        int d = g.box(4, 500);
        due("26: least(d)", g.least(d), a);
        due("26: least(a)", g.least(a), a);
        due("26: least(b)", g.least(b), b);
        g.set(keeper, 0, c);
        g.set(keeper, 1, d);
        g.name(0, keeper);
        g.sweep();
        due("26: that is there", g.least(d), c);
        due("26: GONE", g.least(a), UNKNOWN);
        due("27: groups", g.groups(), 2);
        due("26: a RECORD", g.least(g.record(k)), 5);
    }

    private static void groupsOfWords() {
        GraphPhotographer g = new GraphPhotographer();
        int row = g.rowOf(5);
        for (int i = 0; i < 200; i++) g.put(g.make(row, 1), 0, 5, (i % 100 + 1) * 0x9e3779b97f4a7c15L);
        due("27: 100", g.groups(), 100);
        for (int i = 0; i < 200; i += 7) due("26: least(" + i + ")", g.least(i), i % 100);
    }

    private static void groupsOfAll() {
        GraphPhotographer g = new GraphPhotographer();
        due("27: none", g.groups(), 0);
        int row = g.rowOf(4);
        for (int i = 0; i < 200; i++) g.put(g.make(row, 1), 0, 4, i % 100);
        due("27: 100", g.groups(), 100);
        due("26: least(199)", g.least(199), 99);
        due("24: like(0, 100)", g.like(0, 100), 1);
        g.sweep();
        due("27: all GONE", g.groups(), 0);
    }
}
