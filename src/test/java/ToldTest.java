/** Promises 42 to 45: what is told. */
public final class ToldTest {
    private static final int OUTSIDE = -102;
    private static final Checks CHECKS = new Checks("ToldTest");

    public static void main(String[] args) {
        eachFinding();
        refusalsAreNoFindings();
        counts();
        digests();
        nothingThrows();
        CHECKS.end();
    }

    private static void due(String call, long got, long want) {
        CHECKS.due(call, got, want);
    }

    private static void found(GraphPhotographer g, long answer, int f, int often) {
        due("4: -10 less it", answer, -10 - f);
        due("42: finding()", g.finding(), f);
        due("43: findings(" + f + ")", g.findings(f), often);
    }

    private static void eachFinding() {
        GraphPhotographer g = new GraphPhotographer();
        due("42: before any", g.finding(), 0);
        for (int f = 1; f < 9; f++) due("43: findings(" + f + ")", g.findings(f), 0);
        int x = g.record(Graphs.node(g));
        int row = g.make(g.rowOf(20), 2);
        int box = g.box(4, 1);
        found(g, g.get(-1, 0), 1, 1);
        found(g, g.length(-1), 1, 2);
        found(g, g.get(x, 2), 2, 1);
        found(g, g.make(21, -1), 3, 1);
        found(g, g.set(row, 0, box), 4, 1);
        found(g, g.put(x, 0, 5, 0), 5, 1);
        found(g, g.seal(row), 6, 1);
        g.seal(x);
        found(g, g.seal(x), 7, 1);
        g.name(0, x);
        g.photo();
        g.name(0, -1);
        g.photo();
        g.differ(0, 1);
        found(g, g.lay(1), 8, 1);
        found(g, g.path(0, 1), 1, 3);
        found(g, g.entry(0, x, 5), 2, 2);
        due("43: findings(0)", g.findings(0), OUTSIDE);
        due("43: findings(9)", g.findings(9), OUTSIDE);
        due("43: findings(-1)", g.findings(-1), OUTSIDE);
        due("42: asking changes nothing", g.finding(), 2);
    }

    private static void refusalsAreNoFindings() {
        GraphPhotographer g = new GraphPhotographer();
        g.get(99, 0);
        g.kind(1);
        g.box(8, 0);
        g.lay(0);
        g.about(4, 11);
        g.findings(0);
        due("42: finding()", g.finding(), 0);
        for (int f = 1; f < 9; f++) due("43: findings(" + f + ")", g.findings(f), 0);
    }

    private static void counts() {
        GraphPhotographer g = new GraphPhotographer();
        g.face();
        int k = Graphs.node(g);
        g.rowOf(4);
        g.rowOf(4);
        int x = g.record(k);
        g.box(4, 1);
        g.box(4, 1);
        g.name(0, x);
        g.photo();
        g.put(x, 0, 4, 1);
        g.photo();
        g.differ(0, 1);
        g.sweep();
        int[] want = {3, 2, 1, 2, 1, 1};
        for (int what = 0; what < 6; what++) due("44: count(" + what + ")", g.count(what), want[what]);
        due("44: count(6)", g.count(6), OUTSIDE);
        due("44: count(-1)", g.count(-1), OUTSIDE);
    }

    private static long mix(long... numbers) {
        long h = 29;
        for (long n : numbers) h = 31 * h + n;
        return h;
    }

    private static void digests() {
        GraphPhotographer g = new GraphPhotographer();
        due("45: nothing", g.digest(), mix(-1, -1, -1, -1, -1, -1, 0));
        int k = Graphs.node(g);
        g.make(g.rowOf(5), 1);
        int x = g.record(k);
        int box = g.box(5, Long.MAX_VALUE);
        int row = g.make(g.rowOf(8), 2);
        g.put(x, 0, 4, -9);
        g.set(x, 1, row);
        g.set(row, 1, box);
        g.seal(x);
        g.name(2, x);
        g.sweep();
        g.photo();
        due("45: digest()", g.digest(), mix(x, k, 1, -9, row, box, 15, 0, Long.MAX_VALUE, row, 22, 0, -1, box,
                -1, -1, x, -1, -1, -1, 1));
    }

    /** Every call with every mix of odd numbers, in a state in which much is there: LANGUAGE.md's rule 7, so without an end. */
    private static void nothingThrows() {
        int[] odd = {Integer.MIN_VALUE, -101, -2, -1, 0, 1, 2, 4, 6, 7, 8, 12, 16, 17, 20, 22, 59, 60, 299, 300, 900,
            Integer.MAX_VALUE};
        GraphPhotographer g = new GraphPhotographer();
        g.face();
        int x = g.record(Graphs.node(g));
        g.set(x, 1, g.multi(g.rowOf(g.rowOf(4)), 3, 3));
        g.name(0, x);
        g.photo();
        g.put(x, 0, 4, 3);
        g.photo();
        g.differ(0, 1);
        for (int a : odd) {
            for (int b : odd) {
                for (int c : odd) askAll(g, a, b, c);
            }
        }
        due("nothing was thrown", 1, 1);
    }

    private static void askAll(GraphPhotographer g, int a, int b, int c) {
        g.kind(a);
        g.component(a, b);
        g.close(a);
        g.rowOf(a);
        g.about(a, b);
        g.is(a, b);
        g.make(a, b);
        g.multi(a, b, c);
        g.record(a);
        g.box(a, b);
        g.box(a, (long) b << 32 | c);
        g.get(a, b);
        g.put(a, b, c, a);
        g.set(a, b, c);
        g.copy(a, b, c, a, b);
        g.copy(a, b, a, c, c);
        g.length(a);
        g.classOf(a);
        g.sealed(a);
        g.shallow(a);
        g.deep(a);
        g.like(a, b);
        g.hash(a);
        if (c == 0) g.least(a);
        if (c == 0) g.groups();
        g.name(a, b);
        g.root(a);
        g.path(a, b);
        g.photo();
        g.picture(a, b);
        g.entry(a, b, c);
        g.differ(a, b);
        g.edit(a, b);
        g.lay(a);
        g.merge(a, b, c);
        g.conflict(a, b);
        g.restore(a);
        g.findings(a);
        g.count(a);
        if (c == 900) g.seal(a);
        if (c == 900) g.sweep();
    }
}
