/** Promises 39 and 40 with MERGING of 'Terms', sentence by sentence. */
public final class BoundsOfMergeTest extends Bounds {
    private static final int[] NO_PICTURES = {LEAST, -101, -2, -1, 3, 4, 11, 12, MOST};

    public static void main(String[] args) throws IllegalAccessException {
        runAll(BoundsOfMergeTest.class);
    }

    private static long value(GraphPhotographer g, int p, int x, int i) {
        g.entry(p, x, 3 + i);
        return g.seen();
    }

    private static void conflict(GraphPhotographer g, int k, int... want) {
        for (int what = 0; what < 3; what++) due("conflict(" + k + ", " + what + ")", g.conflict(k, what), want[what]);
    }

    private static void conflicts(GraphPhotographer g, int b, int p, int q, int[]... want) {
        int pictures = g.count(3);
        due("merge(" + b + ", " + p + ", " + q + ")", g.merge(b, p, q), CONFLICTS);
        due("how many", g.conflict(-1, 0), want.length);
        for (int k = 0; k < want.length; k++) conflict(g, k, want[k]);
        due("behind them", g.conflict(want.length, 0), NONE);
        due("PICTURES", g.count(3), pictures);
        due("no FINDING", g.finding(), 0);
    }

    /** RECORDS 0 to 3 of two ints and an ANY (20). PICTURE 0 is of nothing. */
    private static GraphPhotographer nodes() {
        GraphPhotographer g = new GraphPhotographer();
        int k = g.kind(0);
        g.component(k, 4);
        g.component(k, 4);
        g.component(k, 8);
        g.close(k);
        for (int i = 0; i < 4; i++) g.record(k);
        g.photo();
        return g;
    }

    private static int photo(GraphPhotographer g, int... roots) {
        for (int r = 0; r < 6; r++) g.name(r, r < roots.length ? roots[r] : NONE);
        return g.photo();
    }

    private static void put(GraphPhotographer g, int x, int first, int second) {
        g.put(x, 0, 4, first);
        g.put(x, 1, 4, second);
    }

    // ---- MERGING

    @Sentence("ENTRIES are the same, if both are there with the same SEALED, the same values, or none is.")
    static void p00_MERGING_theSame() {
        GraphPhotographer g = nodes();
        int base = photo(g, 0);
        int same = photo(g, 0);
        put(g, 0, 1, 0);
        int other = photo(g, 0);
        due("p the same as b: q", g.merge(base, same, other), 4);
        due("its value", value(g, 4, 0, 0), 1);
        g.seal(0);
        int shut = photo(g, 0);
        due("SEALED is not the same", g.merge(other, shut, same), 6);
        due("its SEALED", g.entry(6, 0, 2), 1);
        due("its value", value(g, 6, 0, 0), 0);
        due("none is, in b and p: q", g.merge(0, 0, other), 7);
        due("it COMES", value(g, 7, 0, 0), 1);
    }

    @Sentence("What q has, if p has the same as b")
    static void p00_MERGING_whatQHas() {
        GraphPhotographer g = nodes();
        int b = photo(g, 0);
        put(g, 0, 5, 6);
        g.set(0, 2, 1);
        int q = photo(g, 0, 1);
        due("merge", g.merge(b, b, q), 3);
        due("it is q", g.differ(3, q), 0);
        due("q has no ENTRY", g.merge(q, q, 0), 4);
        due("it is q", g.differ(4, 0), 0);
        due("q has one that b has not", g.merge(0, 0, q), 5);
        due("it is q", g.differ(5, q), 0);
    }

    @Sentence("what p has, if q has the same as b, or as p")
    static void p00_MERGING_whatPHas() {
        GraphPhotographer g = nodes();
        int b = photo(g, 0);
        put(g, 0, 5, 6);
        g.set(0, 2, 1);
        int p = photo(g, 0, 1);
        due("q as b", g.merge(b, p, b), 3);
        due("it is p", g.differ(3, p), 0);
        due("q as p", g.merge(b, p, p), 4);
        due("it is p", g.differ(4, p), 0);
        due("p has no ENTRY, q as b", g.merge(p, 0, p), 5);
        due("it is p", g.differ(5, 0), 0);
        due("neither p nor q has one", g.merge(p, 0, 0), 6);
        due("it is p", g.differ(6, 0), 0);
        due("both have one that b has not", g.merge(0, p, p), 7);
        due("it is p", g.differ(7, p), 0);
    }

    @Sentence("else, if p and q have ENTRIES: SEALED, then value by value in this way")
    static void p00_MERGING_valueByValue() {
        GraphPhotographer g = nodes();
        put(g, 0, 1, 2);
        int b = photo(g, 0, 1);
        put(g, 0, 7, 2);
        g.set(0, 2, 1);
        int p = photo(g, 0, 1);
        put(g, 0, 1, 8);
        g.seal(0);
        int q = photo(g, 0, 1);
        due("merge", g.merge(b, p, q), 4);
        due("p's", value(g, 4, 0, 0), 7);
        due("q's", value(g, 4, 0, 1), 8);
        due("both's", value(g, 4, 0, 2), 1);
        due("q's SEALED", g.entry(4, 0, 2), 1);
        due("the other way", g.merge(b, q, p), 5);
        due("the same", g.differ(4, 5), 0);
        due("from SEALED to LOOSE", g.merge(4, q, p), 6);
        due("p's SEALED", g.entry(6, 0, 2), 0);
        due("q's first", value(g, 6, 0, 0), 1);
        due("p's second", value(g, 6, 0, 1), 2);
    }

    @Sentence("(b's 0, NONE, not SEALED, if it has no ENTRY)")
    static void p00_MERGING_noEntryInB() {
        GraphPhotographer g = nodes();
        put(g, 0, 5, 0);
        int p = photo(g, 0, 1);
        put(g, 0, 0, 6);
        g.set(0, 2, 1);
        g.seal(0);
        int q = photo(g, 0, 1);
        due("merge", g.merge(0, p, q), 3);
        due("p's", value(g, 3, 0, 0), 5);
        due("q's", value(g, 3, 0, 1), 6);
        due("q's name", value(g, 3, 0, 2), 1);
        due("q's SEALED", g.entry(3, 0, 2), 1);
    }

    @Sentence("2 for a value (the number; its place)")
    static void p00_MERGING_CONFLICT2() {
        GraphPhotographer g = nodes();
        int b = photo(g, 0, 1, 2);
        put(g, 0, 1, 0);
        put(g, 2, 3, 4);
        g.set(0, 2, 1);
        int p = photo(g, 0, 1, 2);
        put(g, 0, 2, 0);
        put(g, 2, 4, 4);
        g.set(0, 2, 2);
        int q = photo(g, 0, 1, 2);
        conflicts(g, b, p, q, new int[] {2, 0, 0}, new int[] {2, 0, 2}, new int[] {2, 2, 0});
        g.set(0, 2, NONE);
        int none = photo(g, 0, 1, 2);
        conflicts(g, p, q, none, new int[] {2, 0, 2});
        conflicts(g, 0, p, q, new int[] {2, 0, 0}, new int[] {2, 0, 2}, new int[] {2, 2, 0});
    }

    /** Two SEALED that both differ from the base are the same, so that sort 1 does not come; SEALED merges beside others. */
    @Sentence("CONFLICT 1 for SEALED (the number; -1)")
    static void p00_MERGING_noCONFLICT1OfTwoTruths() {
        GraphPhotographer g = nodes();
        int b = photo(g, 0);
        put(g, 0, 1, 0);
        int p = photo(g, 0);
        put(g, 0, 2, 0);
        g.seal(0);
        int q = photo(g, 0);
        conflicts(g, b, p, q, new int[] {2, 0, 0});
        conflicts(g, b, q, p, new int[] {2, 0, 0});
        conflicts(g, q, b, p, new int[] {2, 0, 0});
    }

    @Sentence("else CONFLICT 0 (the number; -1)")
    static void p00_MERGING_CONFLICT0() {
        GraphPhotographer g = nodes();
        int b = photo(g, 0, 1);
        put(g, 0, 1, 0);
        g.seal(1);
        int changed = photo(g, 0, 1);
        int gone = photo(g);
        conflicts(g, b, changed, gone, new int[] {0, 0, -1}, new int[] {0, 1, -1});
        conflicts(g, b, gone, changed, new int[] {0, 0, -1}, new int[] {0, 1, -1});
        due("one GOES, the other one is as b", g.merge(b, gone, b), 4);
        due("ENTRIES", g.picture(4, 0), 0);
    }

    @Sentence("ROOTS likewise: CONFLICT 3 (the ROOT; -1).")
    static void p00_MERGING_CONFLICT3() {
        GraphPhotographer g = nodes();
        int b = photo(g, 0, 1, 2, 0, NONE, 0);
        int p = photo(g, 1, 2, 2, 0, 1, 1);
        int q = photo(g, 2, 2, 0, 1, 2, NONE);
        conflicts(g, b, p, q, new int[] {3, 0, -1}, new int[] {3, 4, -1}, new int[] {3, 5, -1});
    }

    @Sentence("ROOTS likewise: CONFLICT 3 (the ROOT; -1).")
    static void p00_MERGING_rootsLikewise() {
        GraphPhotographer g = nodes();
        for (int x = 0; x < 3; x++) g.set(x, 2, (x + 1) % 3);
        int b = photo(g, 0, 0, 0, 0, NONE, 0);
        int p = photo(g, 0, 1, 0, 1, 2, NONE);
        int q = photo(g, 0, 0, 2, 1, NONE, 0);
        due("merge", g.merge(b, p, q), 4);
        int[] want = {0, 1, 2, 1, 2, NONE};
        for (int r = 0; r < 6; r++) due("ROOT " + r, g.picture(4, 2 + r), want[r]);
    }

    @Sentence("If there are none: 4 for each value (the number; its place) and each ROOT (-1 less it; -1) that names what has no ENTRY then.")
    static void p00_MERGING_CONFLICT4() {
        GraphPhotographer g = nodes();
        int b = photo(g, 0, 1, 2);
        int p = photo(g, 0, 1);
        g.set(0, 2, 2);
        g.set(1, 2, 2);
        int q = photo(g, 0, 1, 2, NONE, NONE, 2);
        conflicts(g, b, p, q, new int[] {4, 0, 2}, new int[] {4, 1, 2}, new int[] {4, -6, -1});
    }

    @Sentence("If there are none: 4 for each value (the number; its place) and each ROOT (-1 less it; -1) that names what has no ENTRY then.")
    static void p00_MERGING_noCONFLICT4BesideOthers() {
        GraphPhotographer g = nodes();
        int b = photo(g, 0, 1, 2);
        put(g, 1, 1, 0);
        int p = photo(g, 0, 1);
        put(g, 1, 2, 0);
        g.set(0, 2, 2);
        int q = photo(g, 0, 1, 2, NONE, NONE, 2);
        conflicts(g, b, p, q, new int[] {2, 1, 0});
    }

    @Sentence("-1 less it; -1")
    static void p00_MERGING_CONFLICT4ofEachRoot() {
        for (int r = 0; r < 6; r++) {
            GraphPhotographer g = nodes();
            int b = photo(g, at((r + 1) % 6, 1));
            int p = photo(g);
            int[] both = at((r + 1) % 6, 1);
            both[r] = 1;
            int q = photo(g, both);
            conflicts(g, b, p, q, new int[] {4, -1 - r, -1});
        }
    }

    @Sentence("4 for each value (the number; its place)")
    static void p00_MERGING_CONFLICT4ofEachPlace() {
        for (int i = 0; i < 16; i++) {
            GraphPhotographer g = new GraphPhotographer();
            int anys = g.rowOf(8);
            g.make(anys, 16);
            g.make(anys, 0);
            int b = photo(g, 0, 1);
            int p = photo(g, 0);
            g.set(0, i, 1);
            int q = photo(g, 0, 1);
            conflicts(g, b, p, q, new int[] {4, 0, i});
        }
    }

    private static int[] at(int r, int x) {
        int[] roots = {NONE, NONE, NONE, NONE, NONE, NONE};
        roots[r] = x;
        return roots;
    }

    /** ROWS of so many ints in all, 0 in b and other ones in p and q. */
    private static GraphPhotographer clashes(int many) {
        GraphPhotographer g = new GraphPhotographer();
        int ints = g.rowOf(4);
        int top = g.make(g.rowOf(ints), 5);
        for (int i = 0; i < 5; i++) g.set(top, i, g.make(ints, 16));
        g.name(0, top);
        g.photo();
        for (int v = 1; v < 3; v++) {
            for (int i = 0; i < many; i++) g.put(1 + i / 16, i % 16, 4, v);
            g.photo();
        }
        return g;
    }

    @Sentence("By numbers: ENTRIES are the same")
    static void p00_MERGING_byNumbers() {
        GraphPhotographer g = nodes();
        int b = photo(g, 0, 1, 2, 3, 3);
        put(g, 0, 1, 0);
        put(g, 2, 1, 1);
        int p = photo(g, 0, NONE, 2, NONE, 0);
        put(g, 0, 2, 0);
        put(g, 1, 1, 0);
        put(g, 2, 2, 2);
        put(g, 3, 1, 0);
        int q = photo(g, 0, 1, 2, 3, 1);
        conflicts(g, b, p, q, new int[] {2, 0, 0}, new int[] {0, 1, -1}, new int[] {2, 2, 0}, new int[] {2, 2, 1},
                new int[] {0, 3, -1}, new int[] {3, 4, -1});
    }

    @Sentence("The first 60 are told.")
    static void p00_MERGING_sixtyAreTold() {
        for (int many = 59; many < 63; many++) {
            GraphPhotographer g = clashes(many);
            due("merge", g.merge(0, 1, 2), CONFLICTS);
            due("how many there were", g.conflict(-1, 0), many);
            conflict(g, 0, 2, 1, 0);
            conflict(g, 58, 2, 4, 10);
            conflict(g, 59, many > 59 ? new int[] {2, 4, 11} : new int[] {NONE, NONE, NONE});
            conflict(g, 60, NONE, NONE, NONE);
            conflict(g, 61, NONE, NONE, NONE);
        }
    }

    // ---- promise 39

    @Sentence("p and q MERGED by b: a new PICTURE: its number.")
    static void p39_aNewOne() {
        GraphPhotographer g = Scenes.rich();
        due("merge(0, 0, 0)", g.merge(0, 0, 0), 3);
        due("the same", g.differ(0, 3), 0);
        due("merge(0, 1, 0)", g.merge(0, 1, 0), 4);
        due("merge(2, 2, 1)", g.merge(2, 2, 1), 5);
        due("the same", g.differ(4, 5), 0);
        GraphPhotographer h = new GraphPhotographer();
        h.photo();
        due("of nothing", h.merge(0, 0, 0), 1);
        due("ENTRIES", h.picture(1, 0), 0);
    }

    /** PICTURE 0 was taken when there was nothing yet, 1 when there was no BOX. */
    @Sentence("p and q MERGED by b: a new PICTURE: its number.")
    static void p39_ofWhatWasMadeBehindIt() {
        GraphPhotographer g = new GraphPhotographer();
        g.photo();
        g.name(0, g.make(g.rowOf(4), 16));
        g.put(0, 15, 4, 6);
        g.photo();
        g.name(1, g.box(4, 500));
        g.photo();
        due("what COMES in q", g.merge(0, 0, 2), 3);
        due("it is 2", g.differ(3, 2), 0);
        due("what COMES in p", g.merge(0, 2, 1), 4);
        due("it is 2", g.differ(4, 2), 0);
        due("what GOES", g.merge(2, 1, 0), 5);
        due("it is 0", g.differ(5, 0), 0);
        g.name(0, NONE);
        g.photo();
        due("both", g.merge(1, 2, 6), 7);
        due("it is 6", g.differ(7, 6), 0);
    }

    @Sentence("UNKNOWN; FULL; CONFLICTS")
    static void p39_UNKNOWN() {
        for (int z : NO_PICTURES) {
            refused("b " + z, Scenes::rich, g -> g.merge(z, 0, 0), UNKNOWN);
            refused("p " + z, Scenes::rich, g -> g.merge(0, z, 0), UNKNOWN);
            refused("q " + z, Scenes::rich, g -> g.merge(0, 0, z), UNKNOWN);
        }
        refused("ahead of FULL", Scenes::fullOfPictures, g -> g.merge(0, 0, 12), UNKNOWN);
    }

    @Sentence("UNKNOWN; FULL; CONFLICTS")
    static void p39_FULL() {
        refused("a 13th", Scenes::fullOfPictures, g -> g.merge(0, 0, 0), FULL);
        refused("ahead of CONFLICTS", Scenes::fullOfPictures, g -> g.merge(0, 1, 2), FULL);
        refused("ahead of other CONFLICTS", Scenes::fullOfPictures, g -> g.merge(1, 0, 2), FULL);
        GraphPhotographer g = Scenes.rich();
        for (int p = 3; p < 11; p++) g.photo();
        due("the 12th", g.merge(0, 0, 1), 11);
    }

    @Sentence("CONFLICTS (they are told then, until another merge() that is not refused ahead of it).")
    static void p39_CONFLICTS_toldUntil() {
        refused("the same again", Scenes::rich, g -> g.merge(0, 1, 2), CONFLICTS);
        GraphPhotographer g = Scenes.rich();
        due("told", g.conflict(-1, 0), 1);
        conflict(g, 0, 2, Scenes.LOOSE, 0);
        g.merge(0, 1, 99);
        g.photo();
        g.differ(0, 1);
        g.lay(0);
        g.restore(0);
        due("told still", g.conflict(-1, 0), 1);
        conflict(g, 0, 2, Scenes.LOOSE, 0);
        due("another merge()", g.merge(0, 0, 1), 5);
        due("told no more", g.conflict(-1, 0), 0);
        conflict(g, 0, NONE, NONE, NONE);
    }

    @Sentence("CONFLICTS (they are told then, until another merge() that is not refused ahead of it).")
    static void p39_CONFLICTS_othersThen() {
        GraphPhotographer g = clashes(3);
        due("three", g.merge(0, 1, 2), CONFLICTS);
        g.name(0, NONE);
        g.photo();
        g.name(0, 1);
        g.photo();
        due("two", g.merge(0, 3, 4), CONFLICTS);
        due("how many", g.conflict(-1, 0), 2);
        conflict(g, 0, 0, 1, -1);
        conflict(g, 1, 3, 0, -1);
        conflict(g, 2, NONE, NONE, NONE);
    }

    /** A PICTURE that was begun for a merge() with CONFLICTS is none. */
    @Sentence("CONFLICTS (they are told then, until another merge() that is not refused ahead of it).")
    static void p39_CONFLICTS_leaveNothing() {
        GraphPhotographer g = Scenes.rich();
        due("with CONFLICTS", g.merge(0, 1, 2), CONFLICTS);
        due("the next one", g.merge(0, 0, 0), 3);
        due("as it is due", g.differ(0, 3), 0);
        due("with CONFLICTS", g.merge(0, 1, 2), CONFLICTS);
        due("photo()", g.photo(), 4);
        due("as it is due", g.differ(0, 4), 0);
    }

    /** What is made between a merge() with CONFLICTS and the next PICTURE is in that one. */
    @Sentence("CONFLICTS (they are told then, until another merge() that is not refused ahead of it).")
    static void p39_CONFLICTS_thenMoreThings() {
        for (int n : new int[] {0, 1, 16}) {
            GraphPhotographer g = Scenes.rich();
            due("with CONFLICTS", g.merge(0, 1, 2), CONFLICTS);
            g.name(4, g.make(Scenes.ANYS, n));
            due("photo()", g.photo(), 3);
            due("it is there, with " + n, g.entry(3, Scenes.UNMADE, 1), n);
            due("with CONFLICTS", g.merge(0, 1, 2), CONFLICTS);
            due("merge", g.merge(0, 0, 3), 4);
            due("the same", g.differ(3, 4), 0);
        }
    }

    // ---- promise 40

    @Sentence("CONFLICTS: k = -1: how many there were.")
    static void p40_howMany() {
        due("before any", new GraphPhotographer().conflict(-1, 0), 0);
        GraphPhotographer g = clashes(61);
        g.merge(0, 1, 2);
        for (int what : new int[] {LEAST, -1, 0, 1, 2, 3, MOST}) due("whatever what is, " + what, g.conflict(-1, what), 61);
    }

    @Sentence("what = 0 its sort, 1 the first, 2 the second number.")
    static void p40_eachWhat() {
        GraphPhotographer g = clashes(60);
        g.merge(0, 1, 2);
        for (int k = 0; k < 60; k++) conflict(g, k, 2, 1 + k / 16, k % 16);
    }

    @Sentence("NONE: there is no such one, what.")
    static void p40_NONE() {
        GraphPhotographer g = Scenes.rich();
        for (int k : new int[] {LEAST, -3, -2, 1, 2, 59, 60, MOST}) {
            for (int what = 0; what < 3; what++) due("conflict(" + k + ", " + what + ")", g.conflict(k, what), NONE);
        }
        for (int what : new int[] {LEAST, -2, -1, 3, 4, MOST}) due("what " + what, g.conflict(0, what), NONE);
        due("before any", new GraphPhotographer().conflict(0, 0), NONE);
        due("no FINDING", g.findings(2), Scenes.rich().findings(2));
    }
}
