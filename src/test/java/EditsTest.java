/** Promises 35 to 38: EDITS. */
public final class EditsTest {
    private static final int UNKNOWN = -101, STATE = -103, FULL = -104, MISFIT = -18;
    private static final Checks CHECKS = new Checks("EditsTest");

    public static void main(String[] args) {
        allSorts();
        back();
        boxesThatCome();
        nineHundred();
        wrongOnes();
        laying();
        layingInOrder();
        misfits();
        layingBehindMisfit();
        misfitOfSeals();
        misfitOfRootAndGoes();
        misfitOfGoesAlone();
        misfitBehindAll();
        CHECKS.end();
    }

    private static void due(String call, long got, long want) {
        CHECKS.due(call, got, want);
    }

    private static void edit(GraphPhotographer g, int k, long... want) {
        for (int what = 0; what < 5; what++) due("36: edit(" + k + ", " + what + ")", g.edit(k, what), want[what]);
    }

    /** PICTURE 0: ROOT 0 is a (0), with b (1) behind it; PICTURE 1: a changed and SEALED, b away, c (2) there, a new ROOT. */
    private static GraphPhotographer two() {
        GraphPhotographer g = new GraphPhotographer();
        int k = Graphs.node(g);
        g.record(k);
        g.record(k);
        g.record(k);
        g.set(0, 1, 1);
        g.name(0, 0);
        g.photo();
        g.put(0, 0, 4, 9);
        g.set(0, 1, 2);
        g.put(2, 0, 4, 8);
        g.seal(0);
        g.seal(2);
        g.name(3, 2);
        g.photo();
        return g;
    }

    private static void allSorts() {
        GraphPhotographer g = two();
        due("36: none yet", g.edit(0, 0), 0);
        due("44: count(4)", g.count(4), 0);
        due("35: differ(0, 1)", g.differ(0, 1), 8);
        due("44: count(4)", g.count(4), 8);
        edit(g, 0, 0, 2, 20, 2, 0);
        edit(g, 1, 1, 0, 0, 0, 9);
        edit(g, 2, 1, 0, 1, 1, 2);
        edit(g, 3, 1, 2, 0, 0, 8);
        edit(g, 4, 2, 0, 0, 0, 1);
        edit(g, 5, 2, 2, 0, 0, 1);
        edit(g, 6, 3, 3, 0, -1, 2);
        edit(g, 7, 4, 1, 0, 0, 0);
        edit(g, 8, 0, 0, 0, 0, 0);
        due("36: k -1", g.edit(-1, 0), 0);
        due("36: what 5", g.edit(1, 5), 0);
        due("36: what -1", g.edit(1, -1), 0);
        due("36: k MAX", g.edit(Integer.MAX_VALUE, 1), 0);
        due("35: differ(1, 1)", g.differ(1, 1), 0);
        due("36: none there", g.edit(1, 4), 0);
    }

    private static void back() {
        GraphPhotographer g = two();
        due("35: differ(1, 0)", g.differ(1, 0), 6);
        edit(g, 0, 0, 1, 20, 2, 0);
        edit(g, 1, 1, 0, 0, 9, 0);
        edit(g, 2, 1, 0, 1, 2, 1);
        edit(g, 3, 2, 0, 0, 1, 0);
        edit(g, 4, 3, 3, 0, 2, -1);
        edit(g, 5, 4, 2, 0, 0, 0);
    }

    private static void boxesThatCome() {
        GraphPhotographer g = new GraphPhotographer();
        g.photo();
        g.name(0, g.box(5, -3));
        g.photo();
        g.name(0, g.box(5, 0));
        g.photo();
        due("35: differ(0, 1)", g.differ(0, 1), 3);
        edit(g, 0, 0, 0, 15, 1, 0);
        edit(g, 1, 1, 0, 0, 0, -3);
        edit(g, 2, 3, 0, 0, -1, 0);
        due("37: lay(0)", g.lay(0), 3);
        due("34: its WORD", g.entry(3, 0, 3), 0);
        due("34: it", g.seen(), -3);
        due("35: with 0 there is no CHANGE", g.differ(0, 2), 2);
    }

    /** 57 ROWS of 16 ints, of which 900 change, then one more. */
    private static void nineHundred() {
        GraphPhotographer g = new GraphPhotographer();
        int ints = g.rowOf(4);
        int anys = g.rowOf(8);
        int top = g.make(anys, 4);
        for (int i = 0; i < 4; i++) g.set(top, i, g.make(anys, 16));
        for (int i = 0; i < 57; i++) g.set(1 + i / 16, i % 16, g.make(ints, 16));
        g.name(0, top);
        g.photo();
        for (int i = 0; i < 16; i++) g.put(5, i, 4, 1 + i);
        for (int row = 6; row < 61; row++) g.copy(5, 0, row, 0, 16);
        g.copy(5, 0, 61, 0, 4);
        g.photo();
        g.put(61, 4, 4, 1);
        g.photo();
        due("35: too many, none told yet", g.differ(0, 2), FULL);
        due("37: so lay() has none", g.lay(0), STATE);
        due("35: 900", g.differ(0, 1), 900);
        edit(g, 899, 1, 61, 3, 0, 4);
        due("37: lay(0)", g.lay(0), 3);
        due("35: 901", g.differ(0, 2), FULL);
        due("35: 901 others", g.differ(2, 0), FULL);
        due("35: EDITS as they were", g.count(4), 900);
        edit(g, 0, 1, 5, 0, 0, 1);
        edit(g, 899, 1, 61, 3, 0, 4);
        due("37: they still go", g.lay(0), 4);
        due("35: the same", g.differ(1, 4), 0);
    }

    private static void wrongOnes() {
        GraphPhotographer g = two();
        g.differ(0, 1);
        due("35: p", g.differ(2, 0), UNKNOWN);
        due("35: q", g.differ(0, 2), UNKNOWN);
        due("35: -1", g.differ(-1, 0), UNKNOWN);
        due("44: as they were", g.count(4), 8);
        due("38: misfit()", g.misfit(), -1);
    }

    private static void laying() {
        GraphPhotographer g = two();
        g.differ(0, 1);
        due("37: lay(0)", g.lay(0), 2);
        due("35: it is as 1", g.differ(1, 2), 0);
        due("35: and 1 as it", g.differ(2, 1), 0);
        due("33: ENTRIES", g.picture(2, 0), 2);
        due("33: ROOT 3", g.picture(2, 5), 2);
        due("34: SEALED", g.entry(2, 0, 2), 1);
        due("33: 0 as it was", g.picture(0, 0), 2);
        g.differ(1, 0);
        due("37: back", g.lay(2), 3);
        due("35: it is as 0", g.differ(0, 3), 0);
        due("37: no EDITS", g.lay(1), 4);
        due("35: the same", g.differ(1, 4), 0);
        due("41: it can be restored", g.restore(2), 2);
    }

    private static void layingInOrder() {
        GraphPhotographer g = two();
        due("37: UNKNOWN ahead of STATE", g.lay(2), UNKNOWN);
        due("37: UNKNOWN", g.lay(-1), UNKNOWN);
        due("37: STATE", g.lay(0), STATE);
        for (int p = 2; p < 12; p++) g.photo();
        due("37: STATE ahead of FULL", g.lay(0), STATE);
        g.differ(0, 1);
        due("37: FULL ahead of MISFIT", g.lay(1), FULL);
        due("37: FULL", g.lay(0), FULL);
        due("38: misfit()", g.misfit(), -1);
    }

    private static void misfits() {
        GraphPhotographer g = two();
        g.differ(0, 1);
        due("37: COMES: there is one", g.lay(1), MISFIT);
        due("38: misfit()", g.misfit(), 0);
        due("44: nothing was made", g.count(3), 2);
        g.name(0, -1);
        g.name(3, -1);
        g.photo();
        due("37: CHANGES: there is none", g.lay(2), MISFIT);
        due("38: misfit()", g.misfit(), 1);
        g.differ(0, 0);
        due("37: one that goes", g.lay(2), 3);
        due("38: the latest one stays", g.misfit(), 1);
        due("42: finding()", g.finding(), 8);
        due("43: findings(8)", g.findings(8), 2);
    }

    /** What was laid out for a lay() that met MISFIT leaves no trace in the next one. */
    private static void layingBehindMisfit() {
        GraphPhotographer g = two();
        g.differ(0, 1);
        due("37: lay(1)", g.lay(1), MISFIT);
        due("37: lay(0)", g.lay(0), 2);
        due("35: it is as 1", g.differ(1, 2), 0);
    }

    private static void misfitOfSeals() {
        GraphPhotographer g = new GraphPhotographer();
        int k = Graphs.node(g);
        g.record(k);
        g.record(k);
        g.name(0, 0);
        g.photo();
        g.put(0, 0, 4, 3);
        g.photo();
        g.seal(0);
        g.photo();
        g.name(0, 1);
        g.photo();
        g.differ(1, 2);
        due("37: SEALS goes where other values are", g.lay(0), 4);
        due("37: SEALS: it is not what it was", g.lay(2), MISFIT);
        due("38: misfit()", g.misfit(), 0);
        due("37: SEALS: there is none", g.lay(3), MISFIT);
        g.differ(0, 2);
        due("37: CHANGES: it is not what it was", g.lay(1), MISFIT);
        due("38: misfit()", g.misfit(), 0);
        g.differ(2, 1);
        due("37: SEALED becomes LOOSE", g.lay(4), 5);
        due("35: as at first", g.differ(0, 5), 0);
    }

    private static void misfitOfRootAndGoes() {
        GraphPhotographer g = new GraphPhotographer();
        int k = Graphs.node(g);
        g.record(k);
        g.record(k);
        g.name(0, 0);
        g.photo();
        g.name(0, -1);
        g.photo();
        g.name(1, 1);
        g.photo();
        due("35: ROOT, GOES", g.differ(0, 1), 2);
        due("37: ROOT: it is not what it was", g.lay(2), MISFIT);
        due("38: misfit()", g.misfit(), 0);
        g.name(1, -1);
        g.name(2, 1);
        g.set(1, 1, 0);
        g.photo();
        due("35: only 0 is the same", g.differ(3, 2), 4);
        edit(g, 0, 1, 1, 1, 0, -1);
        edit(g, 3, 4, 0, 0, 0, 0);
        g.set(1, 1, -1);
        g.photo();
        g.differ(3, 4);
        due("35: CHANGES, GOES", g.count(4), 2);
        g.name(2, -1);
        g.name(0, 0);
        g.name(3, 1);
        g.set(1, 1, 0);
        g.photo();
        due("37: 0 GOES, and ROOT 0 names it: behind all", g.lay(5), MISFIT);
        due("38: misfit()", g.misfit(), 2);
        g.differ(0, 1);
        g.name(0, -1);
        g.photo();
        due("37: ROOT", g.lay(6), MISFIT);
        due("38: misfit()", g.misfit(), 0);
        goesWithoutOne();
    }

    /** EDITS that only let b go: laid on a PICTURE without b. */
    private static void goesWithoutOne() {
        GraphPhotographer g = new GraphPhotographer();
        int k = Graphs.node(g);
        g.record(k);
        g.record(k);
        g.set(0, 1, 1);
        g.name(0, 0);
        g.photo();
        g.set(0, 1, -1);
        g.photo();
        due("35: CHANGES, GOES", g.differ(0, 1), 2);
        due("37: CHANGES", g.lay(1), MISFIT);
        due("38: misfit()", g.misfit(), 0);
        g.set(0, 1, 1);
        int row = g.make(g.rowOf(8), 1);
        g.set(row, 0, 1);
        g.name(1, row);
        g.photo();
        due("37: a value names what GOES: behind all", g.lay(2), MISFIT);
        due("38: misfit()", g.misfit(), 2);
        due("35: EDITS are others now", g.differ(1, 1), 0);
        due("38: misfit() stays", g.misfit(), 2);
    }

    /** The ROOT goes, then a, and b behind it, which the other PICTURE has not. */
    private static void misfitOfGoesAlone() {
        GraphPhotographer g = new GraphPhotographer();
        int k = Graphs.node(g);
        g.record(k);
        g.record(k);
        g.set(0, 1, 1);
        g.name(0, 0);
        g.photo();
        g.set(0, 1, -1);
        g.photo();
        g.name(0, -1);
        g.photo();
        due("35: ROOT, GOES, GOES", g.differ(0, 2), 3);
        due("37: GOES: there is none", g.lay(1), MISFIT);
        due("38: misfit()", g.misfit(), 2);
        due("37: where there are both", g.lay(0), 3);
        due("33: no ENTRIES", g.picture(3, 0), 0);
    }

    private static void misfitBehindAll() {
        GraphPhotographer g = new GraphPhotographer();
        int k = Graphs.node(g);
        g.record(k);
        g.record(k);
        g.name(0, 0);
        g.name(1, 1);
        g.photo();
        g.set(0, 1, 1);
        g.photo();
        g.set(0, 1, -1);
        g.name(1, -1);
        g.photo();
        due("35: one CHANGE", g.differ(0, 1), 1);
        due("37: it names what has no ENTRY", g.lay(2), MISFIT);
        due("38: misfit()", g.misfit(), 1);
        g.name(1, 1);
        g.name(2, 1);
        g.photo();
        due("35: one ROOT", g.differ(0, 3), 1);
        due("37: a ROOT names what has no ENTRY", g.lay(2), MISFIT);
        due("38: misfit()", g.misfit(), 1);
        due("37: where it has one it goes", g.lay(1), 4);
    }
}
