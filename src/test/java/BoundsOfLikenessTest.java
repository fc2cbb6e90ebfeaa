import java.math.BigInteger;

/** Promises 24 to 27 with LIKE and HASH of 'Terms', sentence by sentence. */
public final class BoundsOfLikenessTest extends Bounds {
    private static final int[] NO_THINGS = {LEAST, -101, -2, Scenes.GONE, Scenes.UNMADE, 299, 300, MOST};

    public static void main(String[] args) throws IllegalAccessException {
        runAll(BoundsOfLikenessTest.class);
    }

    /** RECORDS 0 to n - 1 of an int and an ANY: class 20. */
    private static GraphPhotographer nodes(int n) {
        GraphPhotographer g = new GraphPhotographer();
        int k = Graphs.node(g);
        for (int i = 0; i < n; i++) g.record(k);
        return g;
    }

    private static void alike(String call, GraphPhotographer g, int x, int y, int want) {
        due(call, g.like(x, y), want);
        due(call + ", the other way", g.like(y, x), want);
        due(call + ", as least() tells", g.least(Math.max(x, y)) == g.least(Math.min(x, y)) ? 1 : 0, want);
    }

    // ---- LIKE

    @Sentence("LIKE are two THINGS of one CLASS, as long")
    static void p00_LIKE_classAndLength() {
        GraphPhotographer g = new GraphPhotographer();
        int ints = g.rowOf(4);
        int longs = g.rowOf(5);
        alike("empty ROWS of one CLASS", g, g.make(ints, 0), g.make(ints, 0), 1);
        alike("empty ROWS of two CLASSES", g, 0, g.make(longs, 0), 0);
        alike("as long", g, g.make(ints, 16), g.make(ints, 16), 1);
        alike("15 and 16", g, g.make(ints, 15), 3, 0);
        alike("0 and 1", g, 0, g.make(ints, 1), 0);
        int k = g.kind(0);
        int l = g.kind(0);
        g.close(k);
        g.close(l);
        alike("without components, one KIND", g, g.record(k), g.record(k), 1);
        alike("without components, two KINDS", g, g.record(k), g.record(l), 0);
        alike("BOXES of two CLASSES", g, g.box(4, 1), g.box(5, 1), 0);
    }

    /** Many, since a program may mix numbers and so take two for one by chance. */
    @Sentence("LIKE are two THINGS of one CLASS, as long")
    static void p00_LIKE_classAndLengthWhateverTheWords() {
        for (int many = 0; many < 60; many++) {
            GraphPhotographer g = new GraphPhotographer();
            int ints = g.rowOf(4);
            for (int i = 0; i < 50; i++) {
                long word = 128 + 50 * many + i;
                int a = g.box(4, word);
                int b = g.box(5, word);
                int one = g.make(ints, 1);
                g.put(one, 0, 4, word);
                int two = g.make(ints, 2);
                g.put(two, 0, 4, word);
                due("BOXES of two CLASSES, " + word, g.like(a, b), 0);
                due("one and two ELEMENTS, " + word, g.like(one, two), 0);
            }
            due("no two", g.groups(), 200);
        }
    }

    @Sentence("RECORDS both LOOSE or both SEALED")
    static void p00_LIKE_sealed() {
        GraphPhotographer g = nodes(4);
        alike("both LOOSE", g, 0, 1, 1);
        g.seal(0);
        alike("one SEALED", g, 0, 1, 0);
        g.seal(1);
        alike("both SEALED", g, 0, 1, 1);
        g.set(2, 1, 0);
        g.set(3, 1, 1);
        alike("what has SEALED ones", g, 2, 3, 1);
        GraphPhotographer h = nodes(4);
        h.set(2, 1, 0);
        h.set(3, 1, 1);
        h.seal(0);
        alike("told apart by what they have", h, 2, 3, 0);
    }

    @Sentence("with the same WORDS")
    static void p00_LIKE_words() {
        GraphPhotographer g = new GraphPhotographer();
        int doubles = g.rowOf(7);
        for (int i = 0; i < 3; i++) g.make(doubles, 16);
        alike("all 0", g, 0, 1, 1);
        g.put(1, 15, 7, 1);
        alike("the last one", g, 0, 1, 0);
        g.put(0, 15, 7, 1);
        alike("the same again", g, 0, 1, 1);
        g.put(2, 15, 7, 1);
        g.put(2, 0, 7, Long.MIN_VALUE);
        alike("0 and -0 are other WORDS", g, 0, 2, 0);
        alike("BOXES that are not one and the same", g, g.box(4, 128), g.box(4, 128), 1);
        alike("of other WORDS", g, g.box(4, 129), g.box(4, 128), 0);
        alike("that differ in the highest bits", g, g.box(5, 1L << 40), g.box(5, 1L << 41), 0);
    }

    @Sentence("NONE where the other one has NONE")
    static void p00_LIKE_none() {
        GraphPhotographer g = nodes(3);
        alike("both NONE", g, 0, 1, 1);
        g.set(0, 1, 2);
        alike("one NONE", g, 0, 1, 0);
        g.set(1, 1, 2);
        alike("none NONE", g, 0, 1, 1);
        GraphPhotographer h = new GraphPhotographer();
        int anys = h.rowOf(8);
        int a = h.make(anys, 2);
        int b = h.make(anys, 2);
        int empty = h.make(anys, 0);
        h.set(a, 0, empty);
        h.set(b, 1, empty);
        alike("at other places", h, a, b, 0);
    }

    @Sentence("and THINGS that are LIKE where it has THINGS")
    static void p00_LIKE_things() {
        GraphPhotographer g = nodes(6);
        g.set(0, 1, 2);
        g.set(1, 1, 3);
        alike("LIKE ones", g, 0, 1, 1);
        g.put(3, 0, 4, 1);
        alike("no LIKE ones", g, 0, 1, 0);
        GraphPhotographer h = new GraphPhotographer();
        int anys = h.rowOf(8);
        int shared = h.make(anys, 2);
        int apart = h.make(anys, 2);
        for (int i = 0; i < 2; i++) h.set(shared, i, 2);
        int one = h.make(anys, 0);
        int other = h.make(anys, 0);
        for (int i = 0; i < 2; i++) h.set(shared, i, one);
        h.set(apart, 0, one);
        h.set(apart, 1, other);
        alike("one twice, or two", h, shared, apart, 1);
    }

    @Sentence("in circles, too: they are LIKE, unless some way along ELEMENTS tells them apart.")
    static void p00_LIKE_circles() {
        for (int n = 1; n < 6; n++) {
            for (int m = 1; m < 6; m++) {
                GraphPhotographer g = nodes(n + m);
                for (int i = 0; i < n; i++) g.set(i, 1, (i + 1) % n);
                for (int i = 0; i < m; i++) g.set(n + i, 1, n + (i + 1) % m);
                alike("circles of " + n + " and " + m, g, 0, n, 1);
                due("one group", g.groups(), 1);
                g.put(n - 1, 0, 4, 1);
                g.put(n + m - 1, 0, 4, 1);
                alike("with one other WORD at the end", g, 0, n, n == m ? 1 : 0);
                due("as many groups", g.groups(), n == m ? n : n + m);
            }
        }
        GraphPhotographer g = nodes(3);
        g.set(0, 1, 0);
        g.set(1, 1, 2);
        alike("a circle, and a way of two that ends", g, 0, 1, 0);
        g.set(2, 1, 0);
        alike("a way into the circle", g, 0, 1, 1);
    }

    /** The longest way there can be: 299 alike ones, and the last one tells. */
    @Sentence("in circles, too: they are LIKE, unless some way along ELEMENTS tells them apart.")
    static void p00_LIKE_theLongestWay() {
        GraphPhotographer g = Scenes.chainOf300();
        g.set(299, 1, 0);
        alike("a circle of 300", g, 0, 299, 1);
        due("one group", g.groups(), 1);
        g.put(299, 0, 4, 1);
        alike("told apart by the last one, 299 on", g, 0, 1, 0);
        due("300 groups", g.groups(), 300);
        due("least", g.least(298), 298);
    }

    // ---- promise 24

    @Sentence("Whether they are LIKE: 1, 0.")
    static void p24_whether() {
        GraphPhotographer g = Scenes.rich();
        due("itself", g.like(Scenes.LOOSE, Scenes.LOOSE), 1);
        due("without ELEMENTS itself", g.like(Scenes.EMPTY_ROW, Scenes.EMPTY_ROW), 1);
        due("another one", g.like(Scenes.LOOSE, Scenes.SHUT), 0);
        refused("changes nothing", Scenes::rich, h -> h.like(Scenes.LOOSE, Scenes.LOOSE), 1);
    }

    @Sentence("UNKNOWN (but NONE)")
    static void p24_UNKNOWN() {
        for (int z : NO_THINGS) {
            refused("x " + z, Scenes::rich, g -> g.like(z, Scenes.LOOSE), UNKNOWN);
            refused("y " + z, Scenes::rich, g -> g.like(Scenes.LOOSE, z), UNKNOWN);
            refused("itself " + z, Scenes::rich, g -> g.like(z, z), UNKNOWN);
            refused("y ahead of NULL " + z, Scenes::rich, g -> g.like(NONE, z), UNKNOWN);
            refused("x ahead of NULL " + z, Scenes::rich, g -> g.like(z, NONE), UNKNOWN);
        }
    }

    @Sentence("NULL: x, y.")
    static void p24_NULL() {
        refused("x", Scenes::rich, g -> g.like(NONE, Scenes.LOOSE), NULL);
        refused("y", Scenes::rich, g -> g.like(Scenes.LOOSE, NONE), NULL);
        refused("both, one FINDING", Scenes::rich, g -> g.like(NONE, NONE), NULL);
    }

    // ---- promise 25 and HASH

    /** Without a long's wrap-around on the way: the lowest 64 bits of what it would be without an end. */
    private static long mix(long... numbers) {
        BigInteger h = BigInteger.valueOf(17);
        for (long n : numbers) h = h.multiply(BigInteger.valueOf(31)).add(BigInteger.valueOf(n));
        return h.longValue();
    }

    private static long hash(GraphPhotographer g, int x) {
        due("hash(" + x + ")", g.hash(x), 0);
        return g.seen();
    }

    @Sentence("HASH at depth 0 is the CLASS")
    static void p00_HASH_depth0() {
        GraphPhotographer g = nodes(4);
        for (int i = 0; i < 3; i++) g.set(i, 1, i + 1);
        long three = mix(20, 2, 0, mix(20, 2, 0, mix(20, 2, 0, 20)));
        due("three on, of which only the CLASS counts", hash(g, 0), three);
        g.put(3, 0, 4, 9);
        g.seal(3);
        due("its values do not", hash(g, 0), three);
        g.set(2, 1, g.box(4, 1));
        due("another CLASS does", hash(g, 0), mix(20, 2, 0, mix(20, 2, 0, mix(20, 2, 0, 14))));
    }

    @Sentence("h is 17, then for each of these numbers, in order, 31 times h, and it (as longs, wrapping)")
    static void p00_HASH_wrapping() {
        GraphPhotographer g = new GraphPhotographer();
        int longs = g.make(g.rowOf(5), 16);
        long[] numbers = new long[18];
        numbers[0] = 20;
        numbers[1] = 16;
        due("all 0 wraps by its length alone", hash(g, longs), mix(numbers));
        for (int i = 0; i < 16; i++) {
            numbers[2 + i] = i % 3 == 0 ? Long.MAX_VALUE - i : i % 3 == 1 ? Long.MIN_VALUE + i : -i;
            g.put(longs, i, 5, numbers[2 + i]);
        }
        due("with the greatest and the least ones", hash(g, longs), mix(numbers));
        int box = g.box(5, Long.MAX_VALUE);
        due("a BOX", hash(g, box), mix(15, 1, Long.MAX_VALUE));
    }

    @Sentence("the CLASS, how many ELEMENTS (a BOX: 1), of each its WORD, or -1 (NONE), or its HASH at depth d.")
    static void p00_HASH_numbersInOrder() {
        GraphPhotographer g = Scenes.rich();
        due("a BOX: 1", hash(g, Scenes.BIG), mix(14, 1, 1000));
        due("a ROW without ELEMENTS", hash(g, Scenes.EMPTY_ROW), mix(Scenes.ANYS, 0));
        due("a RECORD without components", hash(g, Scenes.BARE), mix(Scenes.HOLLOW, 0));
        due("WORDS", hash(g, Scenes.INT_ROW), mix(Scenes.INTS, 3, 10, 11, 12));
        long shutAt2 = mix(Scenes.NODE, 2, -2, mix(Scenes.NODE, 2, 7, Scenes.ANYS));
        due("a THING and NONE", hash(g, Scenes.NODE_ROW), mix(Scenes.NODES, 2, shutAt2, -1));
        long ints = mix(Scenes.INTS, 3, 10, 11, 12);
        long looseAt1 = mix(Scenes.NODE, 2, 7, Scenes.ANYS);
        long anysAt2 = mix(Scenes.ANYS, 4, looseAt1, mix(14, 1, 5), -1, ints);
        due("all of them, in a circle", hash(g, Scenes.LOOSE), mix(Scenes.NODE, 2, 7, anysAt2));
    }

    @Sentence("SEEN becomes HASH at depth 3: 0.")
    static void p25_depth3() {
        GraphPhotographer g = nodes(1);
        g.put(0, 0, 4, -1);
        g.set(0, 1, 0);
        due("in a circle of one", hash(g, 0), mix(20, 2, -1, mix(20, 2, -1, mix(20, 2, -1, 20))));
        refused("only SEEN changes", Scenes::rich, h -> h.hash(Scenes.LOOSE), 0, "seen()");
        int sealed = g.record(20);
        long loose = hash(g, sealed);
        g.seal(sealed);
        due("SEALED is none of its numbers", hash(g, sealed), loose);
    }

    @Sentence("UNKNOWN (but NONE); NULL.")
    static void p25_UNKNOWN_NULL() {
        for (int x : NO_THINGS) refused("hash(" + x + ")", Scenes::rich, g -> g.hash(x), UNKNOWN);
        refused("hash(NONE)", Scenes::rich, g -> g.hash(NONE), NULL);
    }

    // ---- promise 26

    @Sentence("The least THING (that is there) that is LIKE.")
    static void p26_asTheFirstCall() {
        GraphPhotographer g = new GraphPhotographer();
        g.box(4, 500);
        g.box(4, 501);
        due("no other one is LIKE", g.least(1), 1);
        g.box(4, 500);
        due("one that is made then", g.least(2), 0);
        g.box(4, 501);
        due("one of two", g.least(3), 1);
    }

    @Sentence("The least THING (that is there) that is LIKE.")
    static void p26_leastThatIsThere() {
        GraphPhotographer g = new GraphPhotographer();
        int anys = g.rowOf(8);
        for (int i = 0; i < 4; i++) g.make(anys, 1);
        due("of four", g.least(3), 0);
        due("itself", g.least(0), 0);
        g.name(0, 2);
        g.name(1, 3);
        g.sweep();
        due("0 and 1 are GONE", g.least(3), 2);
        due("itself", g.least(2), 2);
        g.set(3, 0, 3);
        due("alone", g.least(3), 3);
        refused("changes nothing", Scenes::rich, h -> h.least(Scenes.BIG), Scenes.BIG);
    }

    @Sentence("UNKNOWN (but NONE); NULL.")
    static void p26_UNKNOWN_NULL() {
        for (int x : NO_THINGS) refused("least(" + x + ")", Scenes::rich, g -> g.least(x), UNKNOWN);
        refused("least(NONE)", Scenes::rich, g -> g.least(NONE), NULL);
    }

    // ---- promise 27

    @Sentence("How many THINGS there are, no two LIKE, so that each other one is LIKE one of them.")
    static void p27_howMany() {
        GraphPhotographer g = new GraphPhotographer();
        due("none", g.groups(), 0);
        int anys = g.rowOf(8);
        g.make(anys, 1);
        due("one", g.groups(), 1);
        g.make(anys, 1);
        due("two that are LIKE", g.groups(), 1);
        g.set(1, 0, 0);
        due("no more", g.groups(), 2);
        g.box(4, 500);
        g.box(4, 500);
        due("BOXES that are LIKE", g.groups(), 3);
        g.sweep();
        due("GONE", g.groups(), 0);
        refused("changes nothing", Scenes::rich, h -> h.groups(), 9);
    }

    @Sentence("How many THINGS there are, no two LIKE, so that each other one is LIKE one of them.")
    static void p27_ofAFullOne() {
        GraphPhotographer g = new GraphPhotographer();
        for (int i = 0; i < 300; i++) g.box(5, 1000 + i);
        due("300, no two LIKE", g.groups(), 300);
        GraphPhotographer h = new GraphPhotographer();
        for (int i = 0; i < 300; i++) h.box(5, 1000);
        due("300 that are LIKE", h.groups(), 1);
        due("the least one", h.least(299), 0);
        GraphPhotographer i = new GraphPhotographer();
        for (int n = 0; n < 300; n++) i.box(5, 1000 + n % 150 * 37L);
        due("150, each twice", i.groups(), 150);
        for (int n = 0; n < 150; n++) due("the least one", i.least(150 + n), n);
    }
}
