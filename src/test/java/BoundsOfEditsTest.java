import java.util.function.Supplier;

/** Promises 35 to 38 with EDITS of 'Terms', sentence by sentence. */
public final class BoundsOfEditsTest extends Bounds {
    private static final int[] NO_PICTURES = {LEAST, -101, -2, -1, 3, 4, 11, 12, MOST};

    public static void main(String[] args) throws IllegalAccessException {
        runAll(BoundsOfEditsTest.class);
    }

    private static void edit(GraphPhotographer g, int k, long... want) {
        for (int what = 0; what < 5; what++) due("edit(" + k + ", " + what + ")", g.edit(k, what), want[what]);
    }

    private static long value(GraphPhotographer g, int p, int x, int i) {
        g.entry(p, x, 3 + i);
        return g.seen();
    }

    /** RECORDS 0 to n - 1 of an int and an ANY (20), and a PICTURE of nothing. */
    private static GraphPhotographer nodes(int n) {
        GraphPhotographer g = new GraphPhotographer();
        int k = Graphs.node(g);
        for (int i = 0; i < n; i++) g.record(k);
        g.photo();
        return g;
    }

    private static void photo(GraphPhotographer g, int... roots) {
        for (int r = 0; r < 6; r++) g.name(r, r < roots.length ? roots[r] : NONE);
        g.photo();
    }

    // ---- EDITS

    @Sentence("0 COMES: by numbers, ENTRIES of q that p has not: of their CLASS and length, with values 0, NONE, not SEALED")
    static void p00_EDITS_COMES() {
        GraphPhotographer g = Scenes.rich();
        for (int r = 0; r < 6; r++) g.name(r, NONE);
        g.photo();
        due("all of them", g.differ(3, 0), 8 + 1 + 1 + 1 + 1 + 3 + 3 + 1 + 1 + 1 + 1 + 5);
        edit(g, 0, 0, Scenes.LOOSE, Scenes.NODE, 2, 0);
        edit(g, 1, 0, Scenes.SHUT, Scenes.NODE, 2, 0);
        edit(g, 2, 0, Scenes.INT_ROW, Scenes.INTS, 3, 0);
        edit(g, 3, 0, Scenes.ANY_ROW, Scenes.ANYS, 4, 0);
        edit(g, 4, 0, Scenes.FIVE, 14, 1, 0);
        edit(g, 5, 0, Scenes.BIG, 14, 1, 0);
        edit(g, 6, 0, Scenes.NODE_ROW, Scenes.NODES, 2, 0);
        edit(g, 7, 0, Scenes.EMPTY_ROW, Scenes.ANYS, 0, 0);
        edit(g, 8, 1, Scenes.LOOSE, 0, 0, 7);
        GraphPhotographer h = nodes(1);
        photo(h, 0);
        due("with values 0, NONE, LOOSE: nothing CHANGES", h.differ(0, 1), 2);
        edit(h, 0, 0, 0, 20, 2, 0);
        edit(h, 1, 3, 0, 0, NONE, 0);
        due("lay(0)", h.lay(0), 2);
        due("0", value(h, 2, 0, 0), 0);
        due("NONE", value(h, 2, 0, 1), NONE);
        due("not SEALED", h.entry(2, 0, 2), 0);
    }

    /** Whatever a lay() that met MISFIT had in its place. */
    @Sentence("with values 0, NONE, not SEALED")
    static void p00_EDITS_COMES_behindMisfit() {
        GraphPhotographer g = nodes(2);
        photo(g, 0);
        g.put(0, 0, 4, 9);
        g.set(0, 1, 1);
        g.seal(0);
        photo(g, 0);
        due("COMES, ROOT", g.differ(0, 1), 2);
        due("on what has it, SEALED and with values", g.lay(2), MISFIT);
        due("on what has it not", g.lay(0), 3);
        due("0", value(g, 3, 0, 0), 0);
        due("NONE", value(g, 3, 0, 1), NONE);
        due("not SEALED", g.entry(3, 0, 2), 0);
        due("as 1", g.differ(1, 3), 0);
    }

    @Sentence("1 CHANGES: by numbers, by places: a value that was one thing (of those that COME 0, NONE) becomes another one")
    static void p00_EDITS_CHANGES() {
        GraphPhotographer g = nodes(3);
        g.set(0, 1, 1);
        photo(g, 0);
        g.put(0, 0, 4, -1);
        g.set(0, 1, 2);
        g.put(1, 0, 4, 6);
        g.set(2, 1, 1);
        g.put(2, 0, 4, 3);
        photo(g, 0);
        due("differ(1, 2)", g.differ(1, 2), 6);
        edit(g, 0, 0, 2, 20, 2, 0);
        edit(g, 1, 1, 0, 0, 0, -1);
        edit(g, 2, 1, 0, 1, 1, 2);
        edit(g, 3, 1, 1, 0, 0, 6);
        edit(g, 4, 1, 2, 0, 0, 3);
        edit(g, 5, 1, 2, 1, NONE, 1);
        due("the other way", g.differ(2, 1), 4);
        edit(g, 0, 1, 0, 0, -1, 0);
        edit(g, 1, 1, 0, 1, 2, 1);
        edit(g, 2, 1, 1, 0, 6, 0);
        edit(g, 3, 4, 2, 0, 0, 0);
    }

    @Sentence("2 SEALS: by numbers, SEALED becomes what it was not")
    static void p00_EDITS_SEALS() {
        GraphPhotographer g = nodes(3);
        photo(g, 0, 1);
        g.seal(1);
        g.seal(0);
        g.seal(2);
        photo(g, 0, 1, 2);
        due("differ(1, 2)", g.differ(1, 2), 5);
        edit(g, 1, 2, 0, 0, 0, 1);
        edit(g, 2, 2, 1, 0, 0, 1);
        edit(g, 3, 2, 2, 0, 0, 1);
        due("the other way", g.differ(2, 1), 4);
        edit(g, 0, 2, 0, 0, 1, 0);
        edit(g, 1, 2, 1, 0, 1, 0);
        edit(g, 3, 4, 2, 0, 0, 0);
    }

    @Sentence("3 ROOT: one that was one thing becomes another one")
    static void p00_EDITS_ROOT() {
        GraphPhotographer g = nodes(2);
        photo(g, 0, 1, 0, NONE, NONE, 1);
        photo(g, 1, 1, NONE, 0, NONE, 0);
        due("differ(1, 2)", g.differ(1, 2), 4);
        edit(g, 0, 3, 0, 0, 0, 1);
        edit(g, 1, 3, 2, 0, 0, NONE);
        edit(g, 2, 3, 3, 0, NONE, 0);
        edit(g, 3, 3, 5, 0, 1, 0);
    }

    @Sentence("4 GOES: by numbers, ENTRIES that q has not.")
    static void p00_EDITS_GOES() {
        GraphPhotographer g = nodes(4);
        g.put(3, 0, 4, 5);
        g.seal(1);
        g.set(0, 1, 3);
        photo(g, 0, 1, 2);
        photo(g, NONE, NONE, 2);
        due("values and SEALED of what GOES are not told", g.differ(1, 2), 5);
        edit(g, 0, 3, 0, 0, 0, NONE);
        edit(g, 1, 3, 1, 0, 1, NONE);
        edit(g, 2, 4, 0, 0, 0, 0);
        edit(g, 3, 4, 1, 0, 0, 0);
        edit(g, 4, 4, 3, 0, 0, 0);
    }

    @Sentence("EDITS make PICTURE q of PICTURE p. In order")
    static void p00_EDITS_inOrder() {
        GraphPhotographer g = nodes(6);
        photo(g, 0, 1, 2, 3);
        for (int x = 0; x < 6; x++) {
            g.put(x, 0, 4, x + 1);
            g.seal(x);
        }
        photo(g, 5, 4, 1, 0);
        due("how many", g.differ(1, 2), 2 + 4 + 4 + 4 + 2);
        int[] sorts = {0, 0, 1, 1, 1, 1, 2, 2, 2, 2, 3, 3, 3, 3, 4, 4};
        int[] numbers = {4, 5, 0, 1, 4, 5, 0, 1, 4, 5, 0, 1, 2, 3, 2, 3};
        for (int k = 0; k < 16; k++) {
            due("sort of " + k, g.edit(k, 0), sorts[k]);
            due("number of " + k, g.edit(k, 1), numbers[k]);
        }
        due("lay(1)", g.lay(1), 3);
        due("it is 2", g.differ(2, 3), 0);
    }

    @Sentence("900 at most.")
    static void p00_EDITS_900() {
        GraphPhotographer g = Scenes.nineHundredChanges();
        due("900", g.differ(0, 1), 900);
        due("count(4)", g.count(4), 900);
        edit(g, 899, 1, 61, 3, 0, 4);
        edit(g, 900, 0, 0, 0, 0, 0);
        due("901", g.differ(0, 2), FULL);
        due("901, the other way", g.differ(2, 0), FULL);
        due("900, the other way", g.differ(1, 0), 900);
        edit(g, 899, 1, 61, 3, 4, 0);
    }

    // ---- promise 35

    @Sentence("EDITS become those that make q of p: how many.")
    static void p35_howMany() {
        GraphPhotographer g = Scenes.rich();
        due("differ(0, 0)", g.differ(0, 0), 0);
        due("count(4)", g.count(4), 0);
        due("none of the earlier ones", g.edit(0, 4), 0);
        due("differ(1, 2)", g.differ(1, 2), 2);
        edit(g, 0, 1, Scenes.LOOSE, 0, 8, 9);
        edit(g, 1, 3, 4, 0, Scenes.FIVE, NONE);
        for (int p = 0; p < 3; p++) {
            for (int q = 0; q < 3; q++) {
                g.differ(p, q);
                int made = g.lay(p);
                due("they make " + q + " of " + p, g.differ(made, q), 0);
            }
        }
        due("of nothing", empty().differ(0, 1), 0);
    }

    /** PICTURE 0 was taken when there was nothing yet. */
    @Sentence("EDITS become those that make q of p: how many.")
    static void p35_ofWhatWasMadeBehindIt() {
        GraphPhotographer g = new GraphPhotographer();
        g.photo();
        g.name(0, g.make(g.rowOf(4), 16));
        g.put(0, 15, 4, 6);
        g.photo();
        g.name(1, g.box(4, 500));
        g.photo();
        due("differ(0, 2)", g.differ(0, 2), 6);
        due("lay(0)", g.lay(0), 3);
        due("it is 2", g.differ(3, 2), 0);
        due("differ(2, 0)", g.differ(2, 0), 4);
        due("lay(2)", g.lay(2), 4);
        due("it is 0", g.differ(4, 0), 0);
        due("differ(1, 2)", g.differ(1, 2), 3);
        due("lay(1)", g.lay(1), 5);
        due("it is 2", g.differ(2, 5), 0);
    }

    private static GraphPhotographer empty() {
        GraphPhotographer g = new GraphPhotographer();
        g.photo();
        g.photo();
        return g;
    }

    @Sentence("UNKNOWN; FULL.")
    static void p35_UNKNOWN() {
        for (int p : NO_PICTURES) {
            refused("differ(" + p + ", 0)", Scenes::rich, g -> g.differ(p, 0), UNKNOWN);
            refused("differ(0, " + p + ")", Scenes::rich, g -> g.differ(0, p), UNKNOWN);
            refused("differ(" + p + ", itself)", Scenes::rich, g -> g.differ(p, p), UNKNOWN);
        }
        due("no EDITS are told by it", refusedFirst().lay(0), STATE);
    }

    private static GraphPhotographer refusedFirst() {
        GraphPhotographer g = empty();
        g.differ(0, 2);
        g.differ(-1, 0);
        return g;
    }

    @Sentence("UNKNOWN; FULL.")
    static void p35_FULL() {
        refused("none told yet", Scenes::nineHundredChanges, g -> g.differ(0, 2), FULL);
        refused("900 told", BoundsOfEditsTest::nineHundredTold, g -> g.differ(0, 2), FULL);
        GraphPhotographer g = Scenes.nineHundredChanges();
        g.differ(0, 2);
        due("no EDITS are told by it", g.lay(0), STATE);
        GraphPhotographer h = nineHundredTold();
        h.differ(0, 2);
        due("the earlier ones still go", h.lay(0), 3);
        due("as they were", h.differ(1, 3), 0);
    }

    private static GraphPhotographer nineHundredTold() {
        GraphPhotographer g = Scenes.nineHundredChanges();
        g.differ(0, 1);
        return g;
    }

    // ---- promise 36

    @Sentence("what = 0 its sort, 1 the number, the ROOT, 2 the CLASS (COMES), the place (CHANGES), 0, 3 the length (COMES), else what it was (SEALS: 0, 1; GOES 0), 4 what it becomes (COMES, GOES 0).")
    static void p36_eachWhat() {
        GraphPhotographer g = nodes(3);
        g.set(0, 1, 1);
        photo(g, 0);
        g.set(0, 1, 2);
        g.seal(0);
        photo(g, NONE, NONE, NONE, NONE, NONE, 0);
        due("differ(1, 2)", g.differ(1, 2), 6);
        edit(g, 0, 0, 2, 20, 2, 0);
        edit(g, 1, 1, 0, 1, 1, 2);
        edit(g, 2, 2, 0, 0, 0, 1);
        edit(g, 3, 3, 0, 0, 0, NONE);
        edit(g, 4, 3, 5, 0, NONE, 0);
        edit(g, 5, 4, 1, 0, 0, 0);
    }

    @Sentence("what = 0 its sort, 1 the number, the ROOT, 2 the CLASS (COMES), the place (CHANGES), 0, 3 the length (COMES), else what it was (SEALS: 0, 1; GOES 0), 4 what it becomes (COMES, GOES 0).")
    static void p36_wholeLongs() {
        GraphPhotographer g = new GraphPhotographer();
        int x = g.make(g.rowOf(5), 16);
        g.put(x, 15, 5, Long.MIN_VALUE);
        g.name(0, x);
        g.photo();
        g.put(x, 15, 5, Long.MAX_VALUE);
        g.photo();
        due("differ(0, 1)", g.differ(0, 1), 1);
        edit(g, 0, 1, x, 15, Long.MIN_VALUE, Long.MAX_VALUE);
    }

    @Sentence("0 also: there is none.")
    static void p36_thereIsNone() {
        GraphPhotographer g = Scenes.rich();
        for (int k : new int[] {LEAST, -2, -1, 2, 3, 899, 900, MOST}) {
            for (int what : new int[] {LEAST, -1, 0, 1, 2, 3, 4, 5, MOST}) due("edit(" + k + ", " + what + ")", g.edit(k, what), 0);
        }
        for (int what : new int[] {LEAST, -1, 5, 6, 10, MOST}) {
            due("edit(0, " + what + ")", g.edit(0, what), 0);
            due("edit(1, " + what + ")", g.edit(1, what), 0);
        }
        due("before any", new GraphPhotographer().edit(0, 1), 0);
        g.differ(0, 0);
        for (int what = 0; what < 5; what++) due("no more " + what, g.edit(0, what), 0);
    }

    // ---- promise 37

    @Sentence("EDITS are done to a PICTURE: a new one: its number.")
    static void p37_aNewOne() {
        GraphPhotographer g = Scenes.rich();
        g.differ(1, 0);
        due("lay(1)", g.lay(1), 3);
        due("as 0", g.differ(3, 0), 0);
        due("no EDITS", g.lay(2), 4);
        due("as 2", g.differ(2, 4), 0);
        GraphPhotographer h = empty();
        h.differ(0, 1);
        due("of nothing", h.lay(0), 2);
        due("ENTRIES", h.picture(2, 0), 0);
    }

    @Sentence("EDITS are done to a PICTURE: a new one: its number.")
    static void p37_onAnotherOne() {
        GraphPhotographer g = nodes(3);
        photo(g, 0);
        g.put(0, 0, 4, 5);
        photo(g, 0, NONE, 2);
        g.put(0, 0, 4, 0);
        g.set(0, 1, 1);
        photo(g, 0, 1);
        due("a CHANGE, a ROOT and a COMES", g.differ(1, 2), 3);
        due("lay(3)", g.lay(3), 4);
        due("what CHANGES", value(g, 4, 0, 0), 5);
        due("what stays", value(g, 4, 0, 1), 1);
        due("ROOT 1", g.picture(4, 3), 1);
        due("ROOT 2", g.picture(4, 4), 2);
        due("ENTRIES", g.picture(4, 0), 3);
    }

    @Sentence("UNKNOWN; STATE")
    static void p37_UNKNOWN() {
        for (int p : NO_PICTURES) refused("lay(" + p + ")", Scenes::rich, g -> g.lay(p), UNKNOWN);
        refused("ahead of STATE", GraphPhotographer::new, g -> g.lay(0), UNKNOWN);
        refused("ahead of FULL", Scenes::fullOfPictures, g -> g.lay(12), UNKNOWN);
    }

    @Sentence("STATE: there were no EDITS told yet")
    static void p37_STATE() {
        refused("none yet", BoundsOfEditsTest::empty, g -> g.lay(0), STATE);
        GraphPhotographer g = empty();
        g.differ(0, 1);
        due("none of them, but told", g.lay(0), 2);
        GraphPhotographer h = empty();
        for (int p = 2; p < 12; p++) h.photo();
        due("ahead of FULL", h.lay(0), STATE);
    }

    @Sentence("FULL; MISFIT")
    static void p37_FULL() {
        refused("a 13th", Scenes::fullOfPictures, g -> g.lay(0), FULL);
        refused("ahead of MISFIT", Scenes::fullOfPictures, g -> g.lay(1), FULL);
        GraphPhotographer g = Scenes.rich();
        for (int p = 3; p < 11; p++) g.photo();
        due("the 12th", g.lay(0), 11);
    }

    /** Asks lay(p) on a scene whose EDITS are told, and which EDIT it is that does not go. */
    private static void misfit(String call, Supplier<GraphPhotographer> scene, int p, int which) {
        refused(call, scene, g -> g.lay(p), MISFIT, "misfit()");
        GraphPhotographer g = scene.get();
        g.lay(p);
        due(call + ", then misfit()", g.misfit(), which);
    }

    @Sentence("COMES: there is an ENTRY of this number")
    static void p37_MISFIT_COMES() {
        misfit("the first one", () -> comes(), 2, 0);
        misfit("the second one", () -> comes(), 3, 1);
        due("where there is none", comes().lay(1), 4);
    }

    /** EDITS: 0 and 1 COME, two ROOTS. PICTURE 1 of nothing, too, 2 has 0 and 1, 3 has 1 at a ROOT of its own. */
    private static GraphPhotographer comes() {
        GraphPhotographer g = nodes(2);
        g.photo();
        photo(g, 0, 1);
        photo(g, NONE, NONE, 1);
        g.differ(0, 2);
        return g;
    }

    @Sentence("CHANGES, SEALS: there is none, or it is not what it was")
    static void p37_MISFIT_CHANGES() {
        misfit("there is none", () -> changes(), 0, 0);
        misfit("it is not what it was", () -> changes(), 2, 0);
        misfit("the second one is not", () -> changes(), 3, 1);
        due("where it is", changes().lay(1), 4);
        misfit("NONE is not what it was", () -> changesOfNames(), 2, 0);
        due("where it is", changesOfNames().lay(1), 3);
    }

    /** EDITS: 0 becomes 5, 1 becomes 6. PICTURE 0 has none, 1 before, 2 behind, 3 with the second one other. */
    private static GraphPhotographer changes() {
        GraphPhotographer g = nodes(2);
        photo(g, 0, 1);
        g.put(0, 0, 4, 5);
        g.put(1, 0, 4, 6);
        photo(g, 0, 1);
        g.put(0, 0, 4, 0);
        g.put(1, 0, 4, 7);
        photo(g, 0, 1);
        g.differ(1, 2);
        return g;
    }

    /** EDIT: 0's name 1 becomes 0. PICTURE 2 has NONE there. */
    private static GraphPhotographer changesOfNames() {
        GraphPhotographer g = nodes(2);
        g.set(0, 1, 1);
        photo(g, 0, 1);
        g.set(0, 1, NONE);
        photo(g, 0, 1);
        g.set(0, 1, 0);
        g.differ(1, 2);
        return g;
    }

    @Sentence("CHANGES, SEALS: there is none, or it is not what it was")
    static void p37_MISFIT_SEALS() {
        misfit("there is none", () -> seals(1, 3), 0, 0);
        misfit("SEALED already", () -> seals(1, 3), 3, 0);
        misfit("LOOSE already", () -> seals(3, 1), 1, 0);
        due("where it is SEALED", seals(3, 1).lay(3), 4);
        GraphPhotographer g = seals(1, 3);
        due("where it is LOOSE, with another value", g.lay(2), 4);
        due("SEALED then", g.entry(4, 0, 2), 1);
        due("with its value", value(g, 4, 0, 0), 9);
    }

    /** EDITS between two of these: PICTURE 0 has none, 1 has it LOOSE, 2 LOOSE with a 9, 3 SEALED. */
    private static GraphPhotographer seals(int p, int q) {
        GraphPhotographer g = nodes(1);
        photo(g, 0);
        g.put(0, 0, 4, 9);
        g.photo();
        g.put(0, 0, 4, 0);
        g.seal(0);
        g.photo();
        g.differ(p, q);
        return g;
    }

    @Sentence("ROOT: likewise")
    static void p37_MISFIT_ROOT() {
        misfit("it is not what it was", () -> roots(), 0, 0);
        misfit("the last ROOT is not", () -> roots(), 3, 1);
        due("where it is", roots().lay(1), 4);
    }

    /** EDITS: ROOT 0 and ROOT 5 from 0 to 1. PICTURE 0 has NONE, 3 has 1 at ROOT 5. */
    private static GraphPhotographer roots() {
        GraphPhotographer g = nodes(2);
        g.set(0, 1, 1);
        g.set(1, 1, 0);
        photo(g, 0, NONE, NONE, NONE, NONE, 0);
        photo(g, 1, NONE, NONE, NONE, NONE, 1);
        photo(g, 0, NONE, NONE, NONE, NONE, 1);
        g.differ(1, 2);
        return g;
    }

    @Sentence("GOES: there is none")
    static void p37_MISFIT_GOES() {
        misfit("the first one", () -> goes(2, 1), 3, 1);
        misfit("the last one", () -> goes(1, 2), 3, 2);
        due("where there are both", goes(2, 1).lay(1), 4);
    }

    /** EDITS: ROOT 0 becomes NONE, 1 GOES, 2 GOES. PICTURE 1 has both, 3 only the top. */
    private static GraphPhotographer goes(int top, int below) {
        GraphPhotographer g = nodes(3);
        g.set(top, 1, below);
        photo(g, top);
        photo(g);
        g.set(top, 1, NONE);
        photo(g, top);
        g.differ(1, 2);
        return g;
    }

    @Sentence("or, behind all, a value or a ROOT names what has no ENTRY.")
    static void p37_MISFIT_behindAll() {
        misfit("a value", () -> dangling(), 3, 1);
        due("where it has one", dangling().lay(1), 4);
        misfit("a ROOT", () -> danglingRoot(), 3, 1);
        due("where it has one", danglingRoot().lay(1), 4);
        misfit("a value of another one, that was there", () -> goneBehind(false), 2, 2);
        misfit("a ROOT, that was there", () -> goneBehind(true), 2, 2);
    }

    @Sentence("or, behind all, a value or a ROOT names what has no ENTRY.")
    static void p37_MISFIT_behindAll_atEachPlace() {
        for (int i = 0; i < 16; i++) {
            int place = i;
            misfit("place " + i, () -> danglingAt(place, NONE), 2, 1);
        }
        for (int r = 0; r < 6; r++) {
            int root = r;
            misfit("ROOT " + r, () -> danglingAt(NONE, root), 2, 1);
        }
    }

    /** EDIT: a place of ROW 0, or a ROOT, becomes 1, which has another ROOT in PICTURES 0 and 1, and no ENTRY in 2. */
    private static GraphPhotographer danglingAt(int place, int root) {
        GraphPhotographer g = new GraphPhotographer();
        int anys = g.rowOf(8);
        g.make(anys, 16);
        g.make(anys, 0);
        int top = root == 1 ? 2 : 1;
        int keeper = root == 3 ? 4 : 3;
        g.name(top, 0);
        g.name(keeper, 1);
        g.photo();
        if (place >= 0) g.set(0, place, 1);
        if (root >= 0) g.name(root, 1);
        g.photo();
        if (place >= 0) g.set(0, place, NONE);
        if (root >= 0) g.name(root, NONE);
        g.name(keeper, NONE);
        g.photo();
        g.differ(0, 1);
        return g;
    }

    /** EDIT: 0's name becomes 1. PICTURE 3 has no 1. */
    private static GraphPhotographer dangling() {
        GraphPhotographer g = nodes(2);
        photo(g, 0, 1);
        g.set(0, 1, 1);
        photo(g, 0, 1);
        g.set(0, 1, NONE);
        photo(g, 0);
        g.differ(1, 2);
        return g;
    }

    /** EDIT: ROOT 5 becomes 1. PICTURE 3 has no 1. */
    private static GraphPhotographer danglingRoot() {
        GraphPhotographer g = nodes(2);
        photo(g, 0, 1);
        photo(g, 0, 1, NONE, NONE, NONE, 1);
        photo(g, 0);
        g.differ(1, 2);
        return g;
    }

    /** EDITS: ROOT 0 becomes NONE, 1 GOES. In PICTURE 2 a ROOT, or 0 has it, too. */
    private static GraphPhotographer goneBehind(boolean byRoot) {
        GraphPhotographer g = nodes(2);
        photo(g, 1);
        if (!byRoot) g.set(0, 1, 1);
        photo(g, 1, NONE, NONE, byRoot ? 1 : 0);
        g.differ(1, 0);
        return g;
    }

    @Sentence("MISFIT: the first one that does not go")
    static void p37_MISFIT_theFirst() {
        GraphPhotographer g = changes();
        g.put(0, 0, 4, 8);
        g.put(1, 0, 4, 8);
        photo(g, 0, 1);
        due("both are not what they were", g.lay(4), MISFIT);
        due("the first one", g.misfit(), 0);
        due("one FINDING", g.findings(8), 1);
    }

    /** A PICTURE that was begun for a lay() that met MISFIT is none. */
    @Sentence("MISFIT: the first one that does not go")
    static void p37_MISFIT_leavesNothing() {
        GraphPhotographer g = changes();
        due("the second one does not go", g.lay(3), MISFIT);
        due("PICTURES", g.count(3), 4);
        due("the next one", g.lay(1), 4);
        due("as it is due", g.differ(2, 4), 0);
    }

    /** What is made between a lay() that met MISFIT and the next PICTURE is in that one. */
    @Sentence("MISFIT: the first one that does not go")
    static void p37_MISFIT_thenMoreThings() {
        for (int n : new int[] {0, 1, 16}) {
            GraphPhotographer g = changes();
            due("lay(3)", g.lay(3), MISFIT);
            g.name(5, g.make(g.rowOf(8), n));
            due("photo()", g.photo(), 4);
            due("it is there, with " + n, g.entry(4, 2, 1), n);
            due("lay(3)", g.lay(3), MISFIT);
            g.differ(0, 4);
            due("lay(0)", g.lay(0), 5);
            due("it is there", g.entry(5, 2, 1), n);
            due("the same", g.differ(4, 5), 0);
        }
    }

    // ---- promise 38

    @Sentence("Which EDIT did not go in the latest lay() that met MISFIT (how many EDITS there are: behind all)")
    static void p38_which() {
        GraphPhotographer g = changes();
        g.lay(3);
        due("the second one", g.misfit(), 1);
        due("one that goes", g.lay(1), 4);
        due("the latest that met MISFIT", g.misfit(), 1);
        due("refused", g.lay(99), UNKNOWN);
        due("the latest that met MISFIT", g.misfit(), 1);
        g.lay(2);
        due("the first one", g.misfit(), 0);
        g.differ(0, 0);
        due("other EDITS", g.misfit(), 0);
        GraphPhotographer h = dangling();
        h.lay(3);
        due("behind all", h.misfit(), 1);
        h.differ(0, 2);
        due("though there are others then", h.misfit(), 1);
    }

    @Sentence("NONE before any.")
    static void p38_NONE() {
        due("of an empty object", new GraphPhotographer().misfit(), NONE);
        GraphPhotographer g = changes();
        due("EDITS told", g.misfit(), NONE);
        g.lay(1);
        due("laid", g.misfit(), NONE);
        g.lay(99);
        due("refused", g.misfit(), NONE);
    }
}
