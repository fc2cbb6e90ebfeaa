import java.math.BigInteger;
import java.util.ArrayList;
import java.util.List;

/** Promises 42 to 45 with FINDINGS of 'Terms', sentence by sentence. */
public final class BoundsOfToldTest extends Bounds {
    public static void main(String[] args) throws IllegalAccessException {
        runAll(BoundsOfToldTest.class);
    }

    /** One call for each FINDING, in their order. */
    private static int meet(GraphPhotographer g, int f) {
        switch (f) {
            case 1: return g.length(NONE);
            case 2: return g.get(Scenes.LOOSE, 2);
            case 3: return g.make(Scenes.INTS, -1);
            case 4: return g.set(Scenes.NODE_ROW, 0, Scenes.BIG);
            case 5: return g.put(Scenes.LOOSE, 1, 4, 0);
            case 6: return g.seal(Scenes.BIG);
            case 7: return g.seal(Scenes.SHUT);
            default: return g.lay(1);
        }
    }

    // ---- FINDINGS

    @Sentence("FINDINGS are answered as -10 less them: 1 NULL, 2 INDEX, 3 SIZE (below 0), 4 STORE (it IS not of the CLASS), 5 UNLIKE (no value that goes), 6 CAST (another sort of THING), 7 SEALED, 8 MISFIT.")
    static void p00_FINDINGS_less10() {
        GraphPhotographer g = Scenes.rich();
        int[] want = {NULL, INDEX, SIZE, STORE, UNLIKE, CAST, SEALED, MISFIT};
        for (int f = 1; f < 9; f++) due("FINDING " + f, meet(g, f), want[f - 1]);
        for (int f = 1; f < 9; f++) due("-10 less it", want[f - 1], -10 - f);
    }

    @Sentence("what is refused or has a FINDING changes nothing, but as told.")
    static void p00_FINDINGS_changeNothing() {
        int[] want = {NULL, INDEX, SIZE, STORE, UNLIKE, CAST, SEALED, MISFIT};
        for (int f = 1; f < 9; f++) {
            int asked = f;
            refused("FINDING " + f, Scenes::rich, g -> meet(g, asked), want[f - 1]);
        }
    }

    @Sentence("Refusals come ahead: UNKNOWN (no such CLASS, THING (that is there), PICTURE, ROOT), OUTSIDE (a number is not as told), STATE, FULL.")
    static void p00_FINDINGS_refusalsAreNone() {
        GraphPhotographer g = Scenes.fullOfThings();
        for (int n = 12; n < 40; n++) g.kind(0);
        for (int p = 3; p < 12; p++) g.photo();
        int latest = g.finding();
        int often = g.findings(latest);
        due("a CLASS", g.about(9, 0), UNKNOWN);
        due("a THING", g.length(-2), UNKNOWN);
        due("a THING that is GONE", g.length(Scenes.GONE), UNKNOWN);
        due("a PICTURE", g.picture(12, 0), UNKNOWN);
        due("a ROOT", g.root(6), UNKNOWN);
        due("OUTSIDE", g.count(6), OUTSIDE);
        due("STATE", g.close(Scenes.NODE), STATE);
        due("FULL of CLASSES", g.kind(0), FULL);
        due("FULL of THINGS", g.make(Scenes.INTS, 0), FULL);
        due("FULL of PICTURES", g.photo(), FULL);
        due("CONFLICTS", Scenes.rich().merge(0, 1, 2), CONFLICTS);
        due("finding() stays", g.finding(), latest);
        due("findings() stay", g.findings(latest), often);
    }

    /** Each call with all wrong at once that can be wrong at once: then one less, and so on, in the order it tells. */
    @Sentence("Of several the first as a call tells them counts")
    static void p00_FINDINGS_theFirstCounts() {
        long no = 0x7fc00000L;
        refused("put 1", Scenes::rich, g -> g.put(Scenes.GONE, 9, 8, no), UNKNOWN);
        refused("put 2", Scenes::rich, g -> g.put(NONE, 9, 6, no), OUTSIDE);
        refused("put 3", Scenes::rich, g -> g.put(NONE, 9, 5, no), NULL);
        refused("put 4", Scenes::rich, g -> g.put(Scenes.BIG, 9, 5, no), CAST);
        refused("put 5", Scenes::rich, g -> g.put(Scenes.SHUT, 9, 5, no), SEALED);
        refused("put 6", Scenes::rich, g -> g.put(Scenes.LOOSE, 9, 5, no), INDEX);
        refused("put 7", Scenes::rich, g -> g.put(Scenes.LOOSE, 0, 5, no), UNLIKE);
        refused("set 1", Scenes::rich, g -> g.set(NONE, 9, Scenes.GONE), UNKNOWN);
        refused("set 2", Scenes::rich, g -> g.set(NONE, 9, NONE), NULL);
        refused("set 3", Scenes::rich, g -> g.set(Scenes.BIG, 9, NONE), CAST);
        refused("set 4", Scenes::rich, g -> g.set(Scenes.SHUT, 9, NONE), SEALED);
        refused("set 5", Scenes::rich, g -> g.set(Scenes.LOOSE, 9, NONE), INDEX);
        refused("set 6", Scenes::rich, g -> g.set(Scenes.LOOSE, 0, NONE), NULL);
        refused("copy 1", Scenes::rich, g -> g.copy(NONE, -1, Scenes.GONE, -1, -1), UNKNOWN);
        refused("copy 2", Scenes::rich, g -> g.copy(NONE, -1, Scenes.BIG, -1, -1), NULL);
        refused("copy 3", Scenes::rich, g -> g.copy(Scenes.BIG, -1, Scenes.INT_ROW, -1, -1), CAST);
        refused("copy 4", Scenes::rich, g -> g.copy(Scenes.ANY_ROW, -1, Scenes.INT_ROW, -1, -1), STORE);
        refused("copy 5", Scenes::rich, g -> g.copy(Scenes.ANY_ROW, 1, Scenes.NODE_ROW, 0, 3), INDEX);
        refused("multi 1", Scenes::fullOfThings, g -> g.multi(9, 9, -1), UNKNOWN);
        refused("multi 2", Scenes::fullOfThings, g -> g.multi(Scenes.INT_ROWS, 9, -1), OUTSIDE);
        refused("multi 3", Scenes::fullOfThings, g -> g.multi(Scenes.INT_ROWS, 1, -1), FULL);
    }

    @Sentence("An object is used for at most 512 calls after it has been made")
    static void p00_512CallsOfEach() {
        GraphPhotographer g = new GraphPhotographer();
        for (int n = 0; n < 511; n++) g.box(n % 8, 1000 + n);
        due("the 512th", g.count(1), 300);
        GraphPhotographer h = new GraphPhotographer();
        h.photo();
        for (int n = 0; n < 510; n++) h.differ(0, 0);
        due("the 512th", h.lay(0), 1);
        GraphPhotographer i = new GraphPhotographer();
        i.rowOf(4);
        for (int n = 0; n < 510; n++) i.make(20, -1);
        due("the 512th", i.findings(3), 510);
    }

    @Sentence("public static final int NONE = -1, UNKNOWN = -101, OUTSIDE = -102, STATE = -103, FULL = -104, CONFLICTS = -105;")
    static void p00_constants() {
        due("NONE", GraphPhotographer.NONE, -1);
        due("UNKNOWN", GraphPhotographer.UNKNOWN, -101);
        due("OUTSIDE", GraphPhotographer.OUTSIDE, -102);
        due("STATE", GraphPhotographer.STATE, -103);
        due("FULL", GraphPhotographer.FULL, -104);
        due("CONFLICTS", GraphPhotographer.CONFLICTS, -105);
    }

    // ---- promise 42

    @Sentence("The latest FINDING")
    static void p42_theLatest() {
        GraphPhotographer g = Scenes.rich();
        for (int f = 8; f > 0; f--) {
            meet(g, f);
            due("finding()", g.finding(), f);
            due("asking again", g.finding(), f);
            g.count(0);
            g.length(99);
            g.get(Scenes.LOOSE, 0);
            due("other answers leave it", g.finding(), f);
        }
    }

    @Sentence("0 before any.")
    static void p42_beforeAny() {
        GraphPhotographer g = new GraphPhotographer();
        due("of an empty object", g.finding(), 0);
        g.length(0);
        g.kind(1);
        g.findings(0);
        due("refusals are none", g.finding(), 0);
    }

    // ---- promise 43

    @Sentence("How often a FINDING (1 .. 8) was answered.")
    static void p43_howOften() {
        GraphPhotographer g = Scenes.rich();
        int[] before = new int[9];
        for (int f = 1; f < 9; f++) before[f] = g.findings(f);
        for (int f = 1; f < 9; f++) {
            for (int n = 0; n < f; n++) meet(g, f);
        }
        for (int f = 1; f < 9; f++) due("findings(" + f + ")", g.findings(f), before[f] + f);
        GraphPhotographer h = new GraphPhotographer();
        for (int f = 1; f < 9; f++) due("none yet", h.findings(f), 0);
        for (int n = 0; n < 500; n++) h.length(NONE);
        due("as often as there are calls", h.findings(1), 500);
    }

    @Sentence("OUTSIDE.")
    static void p43_OUTSIDE() {
        for (int f : new int[] {LEAST, -11, -1, 0, 9, 10, MOST}) {
            refused("findings(" + f + ")", Scenes::rich, g -> g.findings(f), OUTSIDE);
        }
    }

    // ---- promise 44

    @Sentence("0 CLASSES made (from 20 on), 1 THINGS made ever, 2 that are there, 3 PICTURES, 4 EDITS, 5 FACES.")
    static void p44_each() {
        GraphPhotographer g = Scenes.rich();
        int[] want = {12, 10, 9, 3, 2, 2};
        for (int what = 0; what < 6; what++) due("count(" + what + ")", g.count(what), want[what]);
        GraphPhotographer h = new GraphPhotographer();
        for (int what = 0; what < 6; what++) due("of an empty object: " + what, h.count(what), 0);
    }

    @Sentence("0 CLASSES made (from 20 on), 1 THINGS made ever, 2 that are there, 3 PICTURES, 4 EDITS, 5 FACES.")
    static void p44_ofAFullOne() {
        GraphPhotographer g = new GraphPhotographer();
        for (int i = 0; i < 9; i++) g.face();
        for (int c = 0; c < 8; c++) g.rowOf(c);
        for (int i = 0; i < 13; i++) g.photo();
        Scenes.fill(g, 0);
        for (int i = 0; i < 40; i++) g.kind(0);
        int[] want = {40, 300, 300, 12, 0, 8};
        for (int what = 0; what < 6; what++) due("count(" + what + ")", g.count(what), want[what]);
        g.sweep();
        due("made ever", g.count(1), 300);
        due("that are there", g.count(2), 0);
    }

    @Sentence("OUTSIDE.")
    static void p44_OUTSIDE() {
        for (int what : new int[] {LEAST, -1, 6, 7, MOST}) {
            refused("count(" + what + ")", Scenes::rich, g -> g.count(what), OUTSIDE);
        }
    }

    // ---- promise 45

    /** Without a long's wrap-around on the way. */
    private static long mix(List<Long> numbers) {
        BigInteger h = BigInteger.valueOf(29);
        for (long n : numbers) h = h.multiply(BigInteger.valueOf(31)).add(BigInteger.valueOf(n));
        return h.longValue();
    }

    private static void add(List<Long> numbers, long... more) {
        for (long n : more) numbers.add(n);
    }

    @Sentence("h is 29, then for each of these numbers, in order, 31 times h, and it (as longs, wrapping)")
    static void p45_wrapping() {
        GraphPhotographer g = new GraphPhotographer();
        List<Long> numbers = new ArrayList<>();
        int row = g.make(g.rowOf(5), 16);
        add(numbers, row, 20, 0);
        for (int i = 0; i < 16; i++) {
            long word = i % 2 == 0 ? Long.MAX_VALUE - i : Long.MIN_VALUE + i;
            g.put(row, i, 5, word);
            add(numbers, word);
        }
        add(numbers, -1, -1, -1, -1, -1, -1, 0);
        due("digest()", g.digest(), mix(numbers));
    }

    @Sentence("of each THING that is there its number, CLASS, 1 if it is SEALED, else 0, its values (WORDS, numbers, NONE); ROOTS; how many PICTURES.")
    static void p45_numbersInOrder() {
        GraphPhotographer g = Scenes.rich();
        List<Long> numbers = new ArrayList<>();
        add(numbers, Scenes.LOOSE, Scenes.NODE, 0, 7, Scenes.ANY_ROW);
        add(numbers, Scenes.SHUT, Scenes.NODE, 1, -2, Scenes.LOOSE);
        add(numbers, Scenes.INT_ROW, Scenes.INTS, 0, 10, 11, 12);
        add(numbers, Scenes.ANY_ROW, Scenes.ANYS, 0, Scenes.LOOSE, Scenes.FIVE, NONE, Scenes.INT_ROW);
        add(numbers, Scenes.FIVE, 14, 0, 5);
        add(numbers, Scenes.BIG, 14, 0, 1000);
        add(numbers, Scenes.BARE, Scenes.HOLLOW, 0);
        add(numbers, Scenes.NODE_ROW, Scenes.NODES, 0, Scenes.SHUT, NONE);
        add(numbers, Scenes.EMPTY_ROW, Scenes.ANYS, 0);
        add(numbers, Scenes.LOOSE, Scenes.SHUT, Scenes.NODE_ROW, Scenes.BIG, NONE, Scenes.EMPTY_ROW);
        add(numbers, 3);
        due("digest()", g.digest(), mix(numbers));
    }

    @Sentence("of each THING that is there its number, CLASS, 1 if it is SEALED, else 0, its values (WORDS, numbers, NONE); ROOTS; how many PICTURES.")
    static void p45_ofAnEmptyOne() {
        GraphPhotographer g = new GraphPhotographer();
        List<Long> numbers = new ArrayList<>();
        add(numbers, -1, -1, -1, -1, -1, -1, 0);
        due("digest()", g.digest(), mix(numbers));
        g.kind(0);
        due("CLASSES do not count", g.digest(), mix(numbers));
        g.box(4, 1);
        g.sweep();
        due("nor what is GONE", g.digest(), mix(numbers));
        g.photo();
        numbers.set(6, 1L);
        due("PICTURES do", g.digest(), mix(numbers));
        g.differ(0, 0);
        due("EDITS do not", g.digest(), mix(numbers));
    }
}
