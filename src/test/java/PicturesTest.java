/** Promises 32 to 34 and 41: PICTURES, and what is made of them. */
public final class PicturesTest {
    private static final int UNKNOWN = -101, OUTSIDE = -102, FULL = -104, INDEX = -12;
    private static final Checks CHECKS = new Checks("PicturesTest");

    public static void main(String[] args) {
        taking();
        takingTwelve();
        asking();
        entries();
        neverChange();
        restoring();
        restoringBoxes();
        restoringTwoOfOneBox();
        restoringWhenFull();
        restoringWhenFullOfBoxes();
        restoringJustAllBoxes();
        CHECKS.end();
    }

    private static void due(String call, long got, long want) {
        CHECKS.due(call, got, want);
    }

    private static void taking() {
        GraphPhotographer g = new GraphPhotographer();
        int k = Graphs.node(g);
        int a = g.record(k);
        int b = g.record(k);
        int unreached = g.record(k);
        g.set(a, 1, b);
        g.set(b, 1, a);
        g.name(4, a);
        due("32: photo()", g.photo(), 0);
        due("32: what it REACHES", g.picture(0, 0), 2);
        due("32: has b", g.entry(0, b, 0), k);
        due("32: has not what is not reached", g.entry(0, unreached, 0), -1);
        due("32: ROOT", g.picture(0, 6), a);
        due("32: of nothing", g.name(4, -1), a);
        due("32: photo()", g.photo(), 1);
        due("32: no ENTRIES", g.picture(1, 0), 0);
        due("44: count(3)", g.count(3), 2);
    }

    private static void takingTwelve() {
        GraphPhotographer g = new GraphPhotographer();
        for (int p = 0; p < 12; p++) due("32: photo()", g.photo(), p);
        due("32: a 13th", g.photo(), FULL);
        due("44: count(3)", g.count(3), 12);
        due("33: the last one", g.picture(11, 0), 0);
        due("33: no other one", g.picture(12, 0), UNKNOWN);
    }

    private static void asking() {
        GraphPhotographer g = new GraphPhotographer();
        int k = Graphs.node(g);
        int a = g.record(k);
        int row = g.make(g.rowOf(8), 3);
        int box = g.box(4, 1000);
        g.set(row, 0, a);
        g.set(row, 1, box);
        g.name(0, row);
        g.name(5, box);
        g.photo();
        due("33: ENTRIES", g.picture(0, 0), 3);
        due("33: of RECORDS", g.picture(0, 1), 1);
        due("33: ROOT 0", g.picture(0, 2), row);
        due("33: ROOT 1", g.picture(0, 3), -1);
        due("33: ROOT 5", g.picture(0, 7), box);
        due("33: what 8", g.picture(0, 8), OUTSIDE);
        due("33: what -1", g.picture(0, -1), OUTSIDE);
        due("33: UNKNOWN ahead", g.picture(1, 8), UNKNOWN);
        due("33: p -1", g.picture(-1, 0), UNKNOWN);
    }

    private static void entries() {
        GraphPhotographer g = new GraphPhotographer();
        int k = Graphs.node(g);
        int a = g.record(k);
        int box = g.box(4, 1000);
        g.put(a, 0, 4, -5);
        g.set(a, 1, box);
        g.seal(a);
        g.name(0, a);
        g.photo();
        due("34: CLASS", g.entry(0, a, 0), k);
        due("34: length", g.entry(0, a, 1), 2);
        due("34: SEALED", g.entry(0, a, 2), 1);
        due("34: a WORD", g.entry(0, a, 3), 0);
        due("34: it", g.seen(), -5);
        due("34: a THING", g.entry(0, a, 4), 1);
        due("34: its number", g.seen(), box);
        due("34: INDEX", g.entry(0, a, 5), INDEX);
        due("34: INDEX", g.entry(0, a, Integer.MAX_VALUE), INDEX);
        due("34: SEEN as it was", g.seen(), box);
        due("34: a BOX", g.entry(0, box, 0), 14);
        due("34: its length", g.entry(0, box, 1), 1);
        due("34: not SEALED", g.entry(0, box, 2), 0);
        due("34: its WORD", g.entry(0, box, 3), 0);
        due("34: it", g.seen(), 1000);
        due("34: INDEX of a BOX", g.entry(0, box, 4), INDEX);
        due("34: UNKNOWN ahead", g.entry(1, 99, -1), UNKNOWN);
        due("34: OUTSIDE ahead of NONE", g.entry(0, 99, -1), OUTSIDE);
        due("34: NONE ahead of INDEX", g.entry(0, 99, 50), -1);
        due("34: NONE", g.entry(0, -1, 0), -1);
        due("34: NONE is no FINDING", g.findings(1), 0);
        due("42: findings(2)", g.findings(2), 3);
    }

    private static void neverChange() {
        GraphPhotographer g = new GraphPhotographer();
        int a = g.record(Graphs.node(g));
        g.put(a, 0, 4, 1);
        g.name(0, a);
        g.photo();
        g.put(a, 0, 4, 2);
        g.seal(a);
        g.name(0, -1);
        g.sweep();
        g.photo();
        due("32: an ENTRY of what is GONE", g.entry(0, a, 0), 20);
        due("32: as it was", g.entry(0, a, 3), 0);
        due("32: its WORD", g.seen(), 1);
        due("32: LOOSE as it was", g.entry(0, a, 2), 0);
        due("32: the ROOT as it was", g.picture(0, 2), a);
    }

    private static void restoring() {
        GraphPhotographer g = new GraphPhotographer();
        int k = Graphs.node(g);
        int a = g.record(k);
        int b = g.record(k);
        int row = g.make(g.rowOf(8), 3);
        g.put(a, 0, 4, 7);
        g.set(a, 1, row);
        g.set(row, 0, a);
        g.set(row, 1, b);
        g.seal(b);
        g.name(0, row);
        g.name(3, b);
        g.photo();
        g.name(3, -1);
        g.name(1, a);
        g.put(a, 0, 4, 8);
        due("41: restore(0)", g.restore(0), 3);
        due("41: ROOT 0", g.root(0), 5);
        due("41: ROOT 1", g.root(1), -1);
        due("41: ROOT 3", g.root(3), 4);
        due("41: by numbers", g.classOf(3), k);
        due("41: WORD", Graphs.value(g, 3, 0), 7);
        due("41: the old one stays", Graphs.value(g, a, 0), 8);
        due("41: THING", Graphs.value(g, 3, 1), 5);
        due("41: in a circle", Graphs.value(g, 5, 0), 3);
        due("41: NONE", Graphs.value(g, 5, 2), -1);
        due("41: SEALED", g.sealed(4), 1);
        due("41: LOOSE", g.sealed(3), 0);
        due("41: none", g.restore(1), UNKNOWN);
        due("41: none", g.restore(-1), UNKNOWN);
    }

    private static void restoringBoxes() {
        GraphPhotographer g = new GraphPhotographer();
        int row = g.make(g.rowOf(8), 3);
        int five = g.box(4, 5);
        int big = g.box(4, 500);
        int other = g.box(4, 500);
        g.set(row, 0, five);
        g.set(row, 1, big);
        g.set(row, 2, other);
        g.name(0, row);
        g.photo();
        due("41: the one that is there, two anew", g.restore(0), 3);
        due("41: ROOT", g.root(0), 4);
        due("41: it", Graphs.value(g, 4, 0), five);
        due("41: anew", Graphs.value(g, 4, 1), 5);
        due("41: each", Graphs.value(g, 4, 2), 6);
        g.name(0, -1);
        g.sweep();
        due("41: all anew", g.restore(0), 4);
        due("41: it", Graphs.value(g, 7, 0), 8);
        due("12: it is the one", g.box(4, 5), 8);
        due("14: its WORD", Graphs.value(g, 8, 0), 5);
    }

    /** A merge can hold two ENTRIES for BOXES that are one and the same: the older one was GONE between two photos. */
    private static int mergedBoxes(GraphPhotographer g) {
        g.photo();
        g.name(0, g.box(4, 5));
        g.photo();
        g.name(0, -1);
        g.sweep();
        g.name(1, g.box(4, 5));
        g.photo();
        return g.merge(0, 1, 2);
    }

    private static void restoringTwoOfOneBox() {
        GraphPhotographer g = new GraphPhotographer();
        due("39: merge", mergedBoxes(g), 3);
        due("33: two ENTRIES", g.picture(3, 0), 2);
        due("41: the one that is there", g.restore(3), 0);
        due("41: ROOT 0", g.root(0), 1);
        due("41: ROOT 1", g.root(1), 1);
        g.name(0, -1);
        g.name(1, -1);
        g.sweep();
        Graphs.fill(g, 1);
        due("41: one for both", g.restore(3), 1);
        due("41: ROOT 0", g.root(0), 299);
        due("41: ROOT 1", g.root(1), 299);
    }

    private static void restoringWhenFull() {
        GraphPhotographer g = new GraphPhotographer();
        g.name(0, g.multi(g.rowOf(g.rowOf(4)), 3, 1));
        g.photo();
        Graphs.fill(g, 4);
        g.name(1, 0);
        g.photo();
        due("41: just all", g.restore(0), 4);
        due("41: not all", g.restore(0), FULL);
        due("41: ROOTS as they were", g.root(0), 296);
        due("41: nothing was made", g.count(1), 300);
    }

    /** A ROW, three BOXES that are one and the same for like WORDS, two that are not: six, if all are GONE. */
    private static void restoringJustAllBoxes() {
        for (int left = 5; left < 7; left++) {
            GraphPhotographer g = new GraphPhotographer();
            int row = g.make(g.rowOf(8), 5);
            long[] words = {5, 6, 500, 500, 7};
            for (int i = 0; i < 5; i++) g.set(row, i, g.box(4, words[i]));
            g.name(0, row);
            g.photo();
            g.name(0, -1);
            g.sweep();
            Graphs.fill(g, left);
            due("41: left " + left, g.restore(0), left == 6 ? 6 : FULL);
            due("41: made", g.count(1), left == 6 ? 300 : 295);
            due("41: ROOT", g.root(0), left == 6 ? 294 : -1);
        }
    }

    private static void restoringWhenFullOfBoxes() {
        GraphPhotographer g = new GraphPhotographer();
        g.name(0, g.box(4, 5));
        g.photo();
        g.name(1, g.box(4, 500));
        g.photo();
        Graphs.fill(g, 0);
        due("41: the one that is there takes no room", g.restore(0), 0);
        due("41: the other one does", g.restore(1), FULL);
        due("41: ROOT 1 as it was", g.root(1), -1);
    }
}
