/** What several tests build their graphs with. */
final class Graphs {
    private Graphs() {
    }

    /** A KIND with an int and an ANY. */
    static int node(GraphPhotographer g) {
        int k = g.kind(0);
        g.component(k, 4);
        g.component(k, 8);
        g.close(k);
        return k;
    }

    /** Leaves room for so many more THINGS. */
    static void fill(GraphPhotographer g, int left) {
        int row = g.rowOf(0);
        for (int i = g.count(1); i < 300 - left; i++) g.make(row, 0);
    }

    static long value(GraphPhotographer g, int x, int i) {
        g.get(x, i);
        return g.seen();
    }
}
