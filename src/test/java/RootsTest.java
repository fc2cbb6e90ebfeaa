/** Promises 28 to 31: ROOTS. */
public final class RootsTest {
    private static final int UNKNOWN = -101, NULL = -11, INDEX = -12, UNLIKE = -15;
    private static final Checks CHECKS = new Checks("RootsTest");

    public static void main(String[] args) {
        naming();
        ways();
        longWays();
        sweeping();
        sweepingSealed();
        CHECKS.end();
    }

    private static void due(String call, long got, long want) {
        CHECKS.due(call, got, want);
    }

    private static void naming() {
        GraphPhotographer g = new GraphPhotographer();
        int a = g.record(Graphs.node(g));
        int b = g.box(4, 1);
        due("28: name(5, a)", g.name(5, a), -1);
        due("28: name(5, b)", g.name(5, b), a);
        due("29: root(5)", g.root(5), b);
        due("29: root(0)", g.root(0), -1);
        due("28: NONE", g.name(5, -1), b);
        due("29: root(5)", g.root(5), -1);
        due("28: r 6", g.name(6, a), UNKNOWN);
        due("28: r -1", g.name(-1, a), UNKNOWN);
        due("28: x", g.name(0, 99), UNKNOWN);
        due("28: x -2", g.name(0, -2), UNKNOWN);
        due("29: as it was", g.root(0), -1);
        due("29: root(6)", g.root(6), UNKNOWN);
        due("29: root(-1)", g.root(-1), UNKNOWN);
        g.sweep();
        due("28: GONE", g.name(0, b), UNKNOWN);
    }

    private static void ways() {
        GraphPhotographer g = new GraphPhotographer();
        int a = g.record(Graphs.node(g));
        int row = g.make(g.rowOf(8), 16);
        int box = g.box(4, 1);
        g.set(a, 1, row);
        g.set(row, 14, a);
        g.set(row, 1, box);
        g.name(0, a);
        due("30: none", g.path(0, 0), a);
        due("30: 2", g.path(0, 0x2), row);
        due("30: 2, 15", g.path(0, 0xf2), a);
        due("30: 2, 2", g.path(0, 0x22), box);
        due("30: 2, 1: NONE", g.path(0, 0x12), -1);
        due("30: 0 ends it", g.path(0, 0x2f02), row);
        due("30: NULL on the way", g.path(0, 0x112), NULL);
        due("30: INDEX", g.path(0, 0x3), INDEX);
        due("30: a WORD", g.path(0, 0x1), UNLIKE);
        due("30: the WORD of a BOX", g.path(0, 0x122), UNLIKE);
        due("30: INDEX of a BOX", g.path(0, 0x222), INDEX);
        due("30: a ROOT that is NONE", g.path(1, 0), -1);
        due("30: on from it", g.path(1, 1), NULL);
        due("30: r 6", g.path(6, 1), UNKNOWN);
        due("30: r -1", g.path(-1, 1), UNKNOWN);
        due("42: findings", g.findings(5), 2);
    }

    private static void longWays() {
        GraphPhotographer g = new GraphPhotographer();
        int row = g.rowOf(8);
        for (int i = 0; i < 9; i++) g.make(row, 15);
        for (int i = 0; i < 8; i++) {
            g.set(i, 0, i + 1);
            g.set(i, 14, i + 1);
        }
        g.name(3, 0);
        due("30: eight digits", g.path(3, 0x11111111), 8);
        due("30: of all 32 bits", g.path(3, -1), 8);
        due("30: the highest one counts", g.path(3, 0x81111111), -1);
        due("30: seven digits", g.path(3, 0x01111111), 7);
    }

    private static void sweeping() {
        GraphPhotographer g = new GraphPhotographer();
        int k = Graphs.node(g);
        int loose = g.record(k);
        int behind = g.make(g.rowOf(8), 1);
        int box = g.box(4, 5);
        int rooted = g.make(g.rowOf(8), 1);
        int free = g.make(g.rowOf(8), 1);
        g.set(loose, 1, behind);
        g.set(behind, 0, box);
        g.name(2, rooted);
        g.set(free, 0, rooted);
        due("31: one", g.sweep(), 1);
        due("31: GONE", g.length(free), UNKNOWN);
        due("31: a LOOSE RECORD stays", g.length(loose), 2);
        due("31: and what it REACHES", g.length(box), 1);
        due("31: a ROOT stays", g.length(rooted), 1);
        due("31: none more", g.sweep(), 0);
        due("31: there", g.count(2), 4);
        due("31: made ever", g.count(1), 5);
        due("31: numbers do not come twice", g.make(g.rowOf(8), 0), 5);
    }

    private static void sweepingSealed() {
        GraphPhotographer g = new GraphPhotographer();
        int k = Graphs.node(g);
        int a = g.record(k);
        int b = g.record(k);
        g.set(a, 1, b);
        g.set(b, 1, a);
        g.seal(a);
        due("31: b is LOOSE and reaches a", g.sweep(), 0);
        g.seal(b);
        due("31: circles are GONE too", g.sweep(), 2);
        due("31: there", g.count(2), 0);
        int c = g.record(k);
        g.seal(c);
        g.name(0, c);
        due("31: a ROOT keeps it", g.sweep(), 0);
        g.name(0, -1);
        due("31: none does", g.sweep(), 1);
    }
}
