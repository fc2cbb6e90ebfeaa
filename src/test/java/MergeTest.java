/** Promises 39 and 40: merges by three, and CONFLICTS. */
public final class MergeTest {
    private static final int UNKNOWN = -101, FULL = -104, CONFLICTS = -105;
    private static final Checks CHECKS = new Checks("MergeTest");

    public static void main(String[] args) {
        oneSide();
        valueByValue();
        sealedAndValues();
        bothCame();
        bothWent();
        entryConflicts();
        valueConflicts();
        rootConflicts();
        danglingNames();
        moreThanSixty();
        inOrder();
        CHECKS.end();
    }

    private static void due(String call, long got, long want) {
        CHECKS.due(call, got, want);
    }

    private static void conflict(GraphPhotographer g, int k, int sort, int first, int second) {
        due("40: conflict(" + k + ", 0)", g.conflict(k, 0), sort);
        due("40: conflict(" + k + ", 1)", g.conflict(k, 1), first);
        due("40: conflict(" + k + ", 2)", g.conflict(k, 2), second);
    }

    private static long value(GraphPhotographer g, int p, int x, int i) {
        g.entry(p, x, 3 + i);
        return g.seen();
    }

    /** A ROW (0) of three ANYS that ROOT 0 is, and RECORDS 1, 2, 3 of two ints and an ANY, of which it has 1 and 2. */
    private static GraphPhotographer four() {
        GraphPhotographer g = new GraphPhotographer();
        int k = g.kind(0);
        g.component(k, 4);
        g.component(k, 4);
        g.component(k, 8);
        g.close(k);
        g.make(g.rowOf(8), 3);
        for (int i = 0; i < 3; i++) g.record(k);
        g.set(0, 0, 1);
        g.set(0, 1, 2);
        g.name(0, 0);
        g.photo();
        return g;
    }

    private static void oneSide() {
        GraphPhotographer g = four();
        g.put(1, 0, 4, 5);
        g.set(0, 2, 3);
        g.name(1, 3);
        g.photo();
        due("39: q is as b", g.merge(0, 1, 0), 2);
        due("35: it is p", g.differ(1, 2), 0);
        due("39: p is as b", g.merge(0, 0, 1), 3);
        due("35: it is q", g.differ(1, 3), 0);
        due("39: q is as p", g.merge(0, 1, 1), 4);
        due("35: it is both", g.differ(1, 4), 0);
        due("40: none", g.conflict(-1, 0), 0);
        due("40: none", g.conflict(0, 0), -1);
    }

    private static void valueByValue() {
        GraphPhotographer g = four();
        g.put(1, 0, 4, 5);
        g.photo();
        g.put(1, 0, 4, 0);
        g.put(1, 1, 4, 6);
        g.set(1, 2, 2);
        g.put(2, 0, 4, 7);
        g.photo();
        due("39: merge(0, 1, 2)", g.merge(0, 1, 2), 3);
        due("39: p's", value(g, 3, 1, 0), 5);
        due("39: q's", value(g, 3, 1, 1), 6);
        due("39: q's", value(g, 3, 1, 2), 2);
        due("39: another ENTRY", value(g, 3, 2, 0), 7);
    }

    private static void sealedAndValues() {
        GraphPhotographer g = four();
        g.put(1, 0, 4, 5);
        g.photo();
        g.put(1, 0, 4, 0);
        g.seal(1);
        g.photo();
        due("39: q SEALED", g.merge(0, 1, 2), 3);
        due("39: its SEALED", g.entry(3, 1, 2), 1);
        due("39: its value", value(g, 3, 1, 0), 5);
        due("39: p SEALED", g.merge(0, 2, 1), 4);
        due("35: the same", g.differ(3, 4), 0);
        due("39: LOOSE again, by a SEALED base", g.merge(2, 3, 0), 5);
        due("39: its SEALED", g.entry(5, 1, 2), 0);
        due("39: its value", value(g, 5, 1, 0), 5);
        due("39: both SEALED", g.merge(0, 2, 3), 6);
        due("39: its SEALED", g.entry(6, 1, 2), 1);
        due("39: its value", value(g, 6, 1, 0), 5);
    }

    private static void bothCame() {
        GraphPhotographer g = four();
        g.set(0, 2, 3);
        g.put(3, 0, 4, 5);
        g.photo();
        g.put(3, 0, 4, 0);
        g.put(3, 1, 4, 6);
        g.photo();
        due("39: b has no ENTRY: 0", g.merge(0, 1, 2), 3);
        due("39: p's", value(g, 3, 3, 0), 5);
        due("39: q's", value(g, 3, 3, 1), 6);
        due("39: NONE", value(g, 3, 3, 2), -1);
        g.put(3, 0, 4, 7);
        g.photo();
        due("39: both other than 0", g.merge(0, 1, 4), CONFLICTS);
        due("40: how many", g.conflict(-1, 0), 1);
        conflict(g, 0, 2, 3, 0);
    }

    private static void bothWent() {
        GraphPhotographer g = four();
        g.set(0, 1, -1);
        g.photo();
        g.put(1, 0, 4, 5);
        g.photo();
        due("39: none has it", g.merge(0, 1, 2), 3);
        due("34: no ENTRY", g.entry(3, 2, 0), -1);
        due("33: ENTRIES", g.picture(3, 0), 2);
        due("39: one has it as b", g.merge(0, 0, 2), 4);
        due("34: no ENTRY", g.entry(4, 2, 0), -1);
    }

    private static void entryConflicts() {
        GraphPhotographer g = four();
        g.set(0, 1, -1);
        g.photo();
        g.set(0, 1, 2);
        g.put(2, 0, 4, 5);
        g.photo();
        due("39: one went, one changed", g.merge(0, 1, 2), CONFLICTS);
        due("40: how many", g.conflict(-1, 0), 1);
        conflict(g, 0, 0, 2, -1);
        due("39: the other way", g.merge(0, 2, 1), CONFLICTS);
        conflict(g, 0, 0, 2, -1);
        due("44: nothing was made", g.count(3), 3);
        due("42: no FINDING", g.finding(), 0);
    }

    private static void valueConflicts() {
        GraphPhotographer g = four();
        for (int v = 1; v < 3; v++) {
            g.put(2, 1, 4, v);
            g.put(1, 0, 4, v);
            g.put(1, 1, 4, 4);
            g.set(1, 2, v);
            g.name(1, v);
            g.photo();
        }
        due("39: CONFLICTS", g.merge(0, 1, 2), CONFLICTS);
        due("40: how many", g.conflict(-1, 0), 4);
        conflict(g, 0, 2, 1, 0);
        conflict(g, 1, 2, 1, 2);
        conflict(g, 2, 2, 2, 1);
        conflict(g, 3, 3, 1, -1);
        due("40: no such one", g.conflict(4, 0), -1);
        due("40: k -2", g.conflict(-2, 0), -1);
        due("40: what 3", g.conflict(0, 3), -1);
        due("40: what -1", g.conflict(0, -1), -1);
        due("40: k MAX", g.conflict(Integer.MAX_VALUE, 0), -1);
        due("40: k MIN", g.conflict(Integer.MIN_VALUE, 0), -1);
    }

    private static void rootConflicts() {
        GraphPhotographer g = four();
        g.name(0, 1);
        g.name(5, 2);
        g.photo();
        g.name(0, 2);
        g.name(5, 0);
        g.photo();
        g.merge(0, 1, 2);
        due("40: the ROOTS", g.conflict(-1, 0), 2);
        conflict(g, 0, 3, 0, -1);
        conflict(g, 1, 3, 5, -1);
    }

    /** p lets 2 go; q has it as b, but names it anew. */
    private static void danglingNames() {
        GraphPhotographer g = four();
        g.set(0, 1, -1);
        g.photo();
        g.set(0, 1, 2);
        g.set(1, 2, 2);
        g.name(4, 2);
        g.name(5, 2);
        g.photo();
        due("39: merge", g.merge(0, 1, 2), CONFLICTS);
        due("40: how many", g.conflict(-1, 9), 3);
        conflict(g, 0, 4, 1, 2);
        conflict(g, 1, 4, -5, -1);
        conflict(g, 2, 4, -6, -1);
        g.put(1, 0, 4, 1);
        g.photo();
        g.put(1, 0, 4, 2);
        g.set(1, 2, -1);
        g.set(0, 1, -1);
        g.name(4, -1);
        g.name(5, -1);
        g.photo();
        due("39: with others 4 is not told", g.merge(0, 4, 3), CONFLICTS);
        due("40: how many", g.conflict(-1, 0), 1);
        conflict(g, 0, 2, 1, 0);
    }

    private static void moreThanSixty() {
        GraphPhotographer g = new GraphPhotographer();
        int ints = g.rowOf(4);
        int x = g.multi(g.rowOf(ints), 8, 8);
        g.name(0, x);
        g.photo();
        for (int v = 1; v < 3; v++) {
            for (int i = 0; i < 8; i++) g.put(1, i, 4, v);
            for (int row = 2; row < 9; row++) g.copy(1, 0, row, 0, 8);
            g.photo();
        }
        due("39: CONFLICTS", g.merge(0, 1, 2), CONFLICTS);
        due("40: how many there were", g.conflict(-1, 0), 64);
        conflict(g, 59, 2, 8, 3);
        due("40: the first 60 are told", g.conflict(60, 0), -1);
        due("40: the first 60 are told", g.conflict(60, 1), -1);
    }

    private static void inOrder() {
        GraphPhotographer g = four();
        g.put(1, 0, 4, 1);
        g.photo();
        g.put(1, 0, 4, 2);
        g.photo();
        g.merge(0, 1, 2);
        due("39: b", g.merge(3, 0, 0), UNKNOWN);
        due("39: p", g.merge(0, 3, 0), UNKNOWN);
        due("39: q", g.merge(0, 0, -1), UNKNOWN);
        due("40: still told", g.conflict(-1, 0), 1);
        for (int p = g.count(3); p < 12; p++) g.photo();
        due("39: UNKNOWN ahead of FULL", g.merge(0, 0, 12), UNKNOWN);
        due("39: FULL ahead of CONFLICTS", g.merge(0, 1, 2), FULL);
        due("39: FULL", g.merge(0, 1, 1), FULL);
        due("40: still told", g.conflict(-1, 0), 1);
        conflict(g, 0, 2, 1, 0);
        GraphPhotographer h = four();
        h.name(0, -1);
        h.photo();
        h.name(0, 1);
        h.photo();
        due("39: CONFLICTS", h.merge(0, 1, 2), CONFLICTS);
        due("39: another one", h.merge(0, 1, 1), 3);
        due("40: told no more", h.conflict(-1, 0), 0);
        due("40: told no more", h.conflict(0, 0), -1);
    }
}
