/** 'Terms' 1 and 2, sentence by sentence: CLASSES, WORDS, KINDS, THINGS and BOXES. (3 and 4 stand with their promises.) */
public final class BoundsOfTermsTest extends Bounds {
    public static void main(String[] args) throws IllegalAccessException {
        runAll(BoundsOfTermsTest.class);
    }

    // ---- CLASSES

    @Sentence("PLAIN ones 0 truth, 1 byte, 2 char, 3 short, 4 int, 5 long, 6 float, 7 double; 8 ANY; 10 + k the BOX of PLAIN k")
    static void p00_CLASSES_fixed() {
        GraphPhotographer g = new GraphPhotographer();
        for (int k = 0; k < 8; k++) {
            due("sort of " + k, g.about(k, 0), 0);
            due("sort of " + (10 + k), g.about(10 + k, 0), 2);
            due("the BOX of " + k, g.classOf(g.box(k, 0)), 10 + k);
        }
        due("sort of 8", g.about(8, 0), 1);
    }

    @Sentence("No others.")
    static void p00_CLASSES_noOthers() {
        GraphPhotographer g = Scenes.fullOfClasses();
        for (int c : new int[] {LEAST, -1, 9, 18, 19, 60, 61, MOST}) due("about(" + c + ", 0)", g.about(c, 0), UNKNOWN);
        for (int c = 20; c < 60; c++) due(c + " is one", g.about(c, 0) >= 3 ? 1 : 0, 1);
        GraphPhotographer h = Scenes.rich();
        for (int c = Scenes.NO_CLASS; c < 60; c++) due(c + " is none yet", h.about(c, 0), UNKNOWN);
    }

    @Sentence("from 20 on, as they are made, 40 at most")
    static void p00_CLASSES_forty() {
        for (int last = 0; last < 3; last++) {
            GraphPhotographer g = new GraphPhotographer();
            due("a FACE", g.face(), 20);
            due("a ROW", g.rowOf(4), 21);
            for (int i = 2; i < 39; i++) due("a KIND", g.kind(0), 20 + i);
            due("the 40th", last == 0 ? g.face() : last == 1 ? g.kind(0) : g.rowOf(5), 59);
            due("no FACE more", g.face(), FULL);
            due("no KIND more", g.kind(0), FULL);
            due("no ROW more", g.rowOf(6), FULL);
            due("count(0)", g.count(0), 40);
        }
    }

    @Sentence("FACES (8 at most)")
    static void p00_CLASSES_eightFaces() {
        GraphPhotographer g = new GraphPhotographer();
        for (int i = 0; i < 8; i++) due("face()", g.face(), 20 + i);
        due("a ninth", g.face(), FULL);
        due("count(5)", g.count(5), 8);
        due("the eighth has a bit", g.kind(128), 28);
        due("it IS it", g.is(28, 27), 1);
    }

    @Sentence("ROWS (one of each CLASS of ELEMENTS, at most four in one another)")
    static void p00_CLASSES_rows() {
        GraphPhotographer g = new GraphPhotographer();
        int row = 4;
        for (int n = 0; n < 4; n++) {
            row = g.rowOf(row);
            due("in one another", g.about(row, 2), n + 1);
        }
        due("a fifth", g.rowOf(row), OUTSIDE);
        for (int n = 0; n < 4; n++) due("one of each", g.rowOf(n == 0 ? 4 : 19 + n), 20 + n);
        due("count(0)", g.count(0), 4);
    }

    @Sentence("All but PLAIN ones are REFERENCES.")
    static void p00_CLASSES_references() {
        GraphPhotographer g = Scenes.rich();
        for (int c = 0; c < 32; c++) {
            if (g.about(c, 0) == UNKNOWN) continue;
            int row = g.rowOf(c);
            if (row == OUTSIDE || row == FULL) continue;
            int x = g.make(row, 1);
            due("a place of CLASS " + c + " has " + (c < 8 ? "a WORD" : "a THING or NONE"), g.get(x, 0), c < 8 ? 0 : 1);
            due("at first", g.seen(), c < 8 ? 0 : NONE);
        }
    }

    // ---- IS

    @Sentence("A CLASS IS another one: itself")
    static void p00_IS_itself() {
        GraphPhotographer g = Scenes.rich();
        for (int c = 0; c < 32; c++) {
            boolean isOne = g.about(c, 0) != UNKNOWN;
            due("is(" + c + ", itself)", g.is(c, c), isOne ? 1 : UNKNOWN);
        }
    }

    @Sentence("a REFERENCE is ANY")
    static void p00_IS_any() {
        GraphPhotographer g = Scenes.rich();
        for (int c = 0; c < 32; c++) {
            boolean isOne = g.about(c, 0) != UNKNOWN;
            due("is(" + c + ", ANY)", g.is(c, 8), isOne ? c > 7 ? 1 : 0 : UNKNOWN);
            if (isOne && c != 8) due("is(ANY, " + c + ")", g.is(8, c), 0);
        }
    }

    @Sentence("a KIND is each of its FACES")
    static void p00_IS_faces() {
        GraphPhotographer g = new GraphPhotographer();
        for (int i = 0; i < 8; i++) g.face();
        for (int bits : new int[] {0, 1, 128, 129, 170, 255}) {
            int k = g.kind(bits);
            for (int i = 0; i < 8; i++) {
                due("bits " + bits + ", FACE " + i, g.is(k, 20 + i), bits >> i & 1);
                due("FACE " + i + ", bits " + bits, g.is(20 + i, k), 0);
            }
        }
        due("KINDS of like FACES", g.is(g.kind(255), g.kind(255)), 0);
        due("FACES", g.is(20, 21), 0);
    }

    @Sentence("a ROW of REFERENCES is a ROW of whatever REFERENCE its ELEMENTS' CLASS is.")
    static void p00_IS_rows() {
        GraphPhotographer g = Scenes.rich();
        int faces = g.rowOf(Scenes.FACE);
        int others = g.rowOf(Scenes.OTHER_FACE);
        int nodeRows = g.rowOf(Scenes.NODES);
        int faceRows = g.rowOf(faces);
        int anyRows = g.rowOf(Scenes.ANYS);
        int anyRowRows = g.rowOf(anyRows);
        int longs = g.rowOf(5);
        int boxes = g.rowOf(14);
        int[][] is = {{Scenes.NODES, faces}, {Scenes.NODES, Scenes.ANYS}, {nodeRows, faceRows}, {nodeRows, anyRows},
            {nodeRows, Scenes.ANYS}, {faceRows, anyRows}, {Scenes.INT_ROWS, Scenes.ANYS}, {Scenes.THREE, anyRows},
            {Scenes.FOUR, anyRowRows}, {Scenes.FOUR, anyRows}, {Scenes.FOUR, Scenes.ANYS}, {boxes, Scenes.ANYS}};
        for (int[] two : is) {
            due("is(" + two[0] + ", " + two[1] + ")", g.is(two[0], two[1]), 1);
            due("is(" + two[1] + ", " + two[0] + ")", g.is(two[1], two[0]), 0);
        }
        int[][] not = {{Scenes.NODES, others}, {Scenes.INTS, Scenes.ANYS}, {Scenes.INTS, longs}, {Scenes.INT_ROWS, anyRows},
            {Scenes.INTS, boxes}, {Scenes.FOUR, g.rowOf(anyRowRows)}, {Scenes.NODES, Scenes.NODE}, {Scenes.NODES, Scenes.FACE}};
        for (int[] two : not) {
            due("is(" + two[0] + ", " + two[1] + ")", g.is(two[0], two[1]), 0);
            due("is(" + two[1] + ", " + two[0] + ")", g.is(two[1], two[0]), 0);
        }
    }

    @Sentence("a ROW of REFERENCES is a ROW of whatever REFERENCE its ELEMENTS' CLASS is.")
    static void p00_IS_fourRowsInOneAnother() {
        GraphPhotographer g = Scenes.rich();
        int[] tops = {Scenes.NODE, Scenes.FACE, 8, Scenes.OTHER_FACE, 4};
        for (int n = 1; n <= 4; n++) {
            for (int i = 0; i < 5; i++) tops[i] = g.rowOf(tops[i]);
            due(n + ": of NODES, of its FACE", g.is(tops[0], tops[1]), 1);
            due(n + ": of NODES, of ANYS", g.is(tops[0], tops[2]), 1);
            due(n + ": of FACES, of ANYS", g.is(tops[1], tops[2]), 1);
            due(n + ": of NODES, of another FACE", g.is(tops[0], tops[3]), 0);
            due(n + ": of ints, of ANYS", g.is(tops[4], tops[2]), 0);
            due(n + ": of ANYS, of NODES", g.is(tops[2], tops[0]), 0);
            due(n + ": itself", g.is(tops[0], tops[0]), 1);
        }
    }

    // ---- WORDS

    /** What a WORD tells, by a BOX, by put() and by a PICTURE. */
    private static void told(int k, long word, long want) {
        GraphPhotographer g = new GraphPhotographer();
        String call = k + " of " + word;
        int box = g.box(k, word);
        due(call + " by box()", Graphs.value(g, box, 0), want);
        int row = g.make(g.rowOf(k), 1);
        due(call + " by put()", g.put(row, 0, k, word), 0);
        due(call + " by put()", Graphs.value(g, row, 0), want);
        due(call + " by set()", g.set(row, 0, box) + (Graphs.value(g, row, 0) == want ? 0 : 1), 0);
        g.name(0, row);
        g.photo();
        g.entry(0, row, 3);
        due(call + " in a PICTURE", g.seen(), want);
    }

    @Sentence("truth 1, 0")
    static void p00_WORDS_truth() {
        long[][] cases = {{0, 0}, {1, 1}, {2, 0}, {3, 1}, {-1, 1}, {-2, 0}, {1L << 63, 0}, {Long.MAX_VALUE, 1}};
        for (long[] c : cases) told(0, c[0], c[1]);
    }

    @Sentence("its lowest bit, 8, 16, 16, 32 bits, all of it, the lowest 32, all.")
    static void p00_WORDS_byte() {
        long[][] cases = {{127, 127}, {128, -128}, {-128, -128}, {-129, 127}, {255, -1}, {256, 0}, {300, 44}, {Long.MAX_VALUE, -1},
            {Long.MIN_VALUE, 0}};
        for (long[] c : cases) told(1, c[0], c[1]);
    }

    @Sentence("whole ones themselves (char from 0 on)")
    static void p00_WORDS_char() {
        long[][] cases = {{0, 0}, {65535, 65535}, {65536, 0}, {-1, 65535}, {-65536, 0}, {32768, 32768}, {Long.MAX_VALUE, 65535}};
        for (long[] c : cases) told(2, c[0], c[1]);
    }

    @Sentence("its lowest bit, 8, 16, 16, 32 bits, all of it, the lowest 32, all.")
    static void p00_WORDS_short() {
        long[][] cases = {{32767, 32767}, {32768, -32768}, {-32768, -32768}, {-32769, 32767}, {65535, -1}, {65536, 0}};
        for (long[] c : cases) told(3, c[0], c[1]);
    }

    @Sentence("its lowest bit, 8, 16, 16, 32 bits, all of it, the lowest 32, all.")
    static void p00_WORDS_int() {
        long[][] cases = {{MOST, MOST}, {MOST + 1L, LEAST}, {LEAST, LEAST}, {LEAST - 1L, MOST}, {(1L << 32) - 1, -1}, {1L << 32, 0},
            {Long.MAX_VALUE, -1}, {Long.MIN_VALUE, 0}};
        for (long[] c : cases) told(4, c[0], c[1]);
    }

    @Sentence("its lowest bit, 8, 16, 16, 32 bits, all of it, the lowest 32, all.")
    static void p00_WORDS_long() {
        for (long word : new long[] {0, -1, 1L << 32, Long.MAX_VALUE, Long.MIN_VALUE}) told(5, word, word);
    }

    @Sentence("a float its 32 bits as an int, a double its 64.")
    static void p00_WORDS_floatAndDouble() {
        long[][] floats = {{0, 0}, {0x80000000L, LEAST}, {LEAST, LEAST}, {0xbfc00000L, (int) 0xbfc00000L}, {0x3f800000L, 0x3f800000L},
            {0x12345678_3f800000L, 0x3f800000L}, {0x7ff80000_00000001L, 1}, {1L << 32, 0}};
        for (long[] c : floats) told(6, c[0], c[1]);
        for (long word : new long[] {0, Long.MIN_VALUE, 1, 0x3ff0000000000000L, 0xbff8000000000001L, 0x7fefffffffffffffL}) told(7, word, word);
    }

    @Sentence("(WORDS that tell no number are not taken.)")
    static void p00_WORDS_noNumbers() {
        long[] floats = {0x7f800001L, 0x7fc00000L, 0x7fffffffL, 0xff800001L, 0xffc00000L, 0xffffffffL, -1, 0x12345678_7fc00000L};
        for (long word : floats) {
            refused("box(6, " + word + ")", Scenes::rich, g -> g.box(6, word), OUTSIDE);
            refused("put of " + word, Scenes::rich, g -> g.put(Scenes.LOOSE, 0, 6, word), OUTSIDE);
        }
        long[] doubles = {0x7ff0000000000001L, 0x7ff8000000000000L, Long.MAX_VALUE, 0xfff0000000000001L, 0xfff8000000000000L, -1};
        for (long word : doubles) {
            refused("box(7, " + word + ")", Scenes::rich, g -> g.box(7, word), OUTSIDE);
            refused("put of " + word, Scenes::rich, g -> g.put(Scenes.LOOSE, 0, 7, word), OUTSIDE);
        }
    }

    @Sentence("(WORDS that tell no number are not taken.)")
    static void p00_WORDS_theLastThatAreTaken() {
        told(6, 0x7f7fffffL, 0x7f7fffffL);
        told(6, 0x7f800000L, 0x7f800000L);
        told(6, 0xff800000L, (int) 0xff800000L);
        told(7, 0x7ff0000000000000L, 0x7ff0000000000000L);
        told(7, 0xfff0000000000000L, 0xfff0000000000000L);
        for (int k = 0; k < 6; k++) due("whole ones all tell numbers: " + k, new GraphPhotographer().box(k, 0x7ff8000000000000L), 0);
    }

    // ---- WIDENING

    @Sentence("WIDENING is from byte to short, int, long, float, double; char, short to int, long, float, double; int to long, float, double; long to float, double; float to double")
    static void p00_WIDENING_ways() {
        String[] ways = {"0", "134567", "24567", "34567", "4567", "567", "67", "7"};
        for (int from = 0; from < 8; from++) {
            for (int to = 0; to < 8; to++) {
                int k = from;
                int row = to;
                boolean goes = ways[from].indexOf('0' + to) >= 0;
                if (goes) {
                    GraphPhotographer g = boxAndRow(k, row);
                    due("put " + from + " into " + to, g.put(1, 0, k, 1), 0);
                    due("set " + from + " into " + to, g.set(1, 0, 0), 0);
                } else {
                    refused("put " + from + " into " + to, () -> boxAndRow(k, row), g -> g.put(1, 0, k, 1), UNLIKE);
                    refused("set " + from + " into " + to, () -> boxAndRow(k, row), g -> g.set(1, 0, 0), UNLIKE);
                }
            }
        }
    }

    private static GraphPhotographer boxAndRow(int box, int row) {
        GraphPhotographer g = new GraphPhotographer();
        g.box(box, 1);
        g.make(g.rowOf(row), 1);
        return g;
    }

    private static long widened(int from, long word, int to) {
        GraphPhotographer g = boxAndRow(from, to);
        due("put " + word + " of " + from + " into " + to, g.put(1, 0, from, word), 0);
        long byPut = Graphs.value(g, 1, 0);
        g.put(1, 0, to, 0);
        g.set(1, 0, g.box(from, word));
        due("set tells the same as put", Graphs.value(g, 1, 0), byPut);
        return byPut;
    }

    @Sentence("(as this language does it)")
    static void p00_WIDENING_wholeOnes() {
        long[] words = {0, 1, -1, 127, -128, 255, 32767, -32768, 65535, MOST, LEAST, Long.MAX_VALUE, Long.MIN_VALUE};
        for (long word : words) {
            byte b = (byte) word;
            char c = (char) word;
            short s = (short) word;
            int i = (int) word;
            long[] told = {0, b, c, s, i, word};
            int[][] ways = {{1, 3}, {1, 4}, {1, 5}, {2, 4}, {2, 5}, {3, 4}, {3, 5}, {4, 5}};
            for (int[] way : ways) due(word + " of " + way[0] + " into " + way[1], widened(way[0], word, way[1]), told[way[0]]);
        }
    }

    @Sentence("(as this language does it)")
    static void p00_WIDENING_roundsToTheNearest() {
        long[] words = {0, 1, -1, 65535, 16777215, 16777216, 16777217, 16777218, 16777219, 16777221, 16777223, -16777217, -16777219, 33554431,
            33554433, 33554434, 33554435, 33554437, 33554438, 33554439, MOST, MOST - 63, MOST - 64, MOST - 65, LEAST, LEAST + 1,
            (1L << 53) - 1, 1L << 53, (1L << 53) + 1, (1L << 53) + 2, (1L << 53) + 3, -(1L << 53) - 1, -(1L << 53) - 3, (1L << 54) + 2,
            (1L << 54) + 6, Long.MAX_VALUE, Long.MAX_VALUE - 511, Long.MAX_VALUE - 512, Long.MIN_VALUE, Long.MIN_VALUE + 1,
            0x7fffffbfffffffffL, 0x7fffffc000000000L, 0x7fffff4000000000L, 0x7fffff4000000001L};
        for (long word : words) {
            int i = (int) word;
            due(i + " int to float", widened(4, i, 6), Float.floatToRawIntBits(i));
            due(i + " int to double", widened(4, i, 7), Double.doubleToRawLongBits(i));
            due(word + " long to float", widened(5, word, 6), Float.floatToRawIntBits(word));
            due(word + " long to double", widened(5, word, 7), Double.doubleToRawLongBits(word));
            for (int k = 1; k < 4; k++) {
                int whole = k == 1 ? (byte) word : k == 2 ? (char) word : (short) word;
                due(word + " of " + k + " to float", widened(k, word, 6), Float.floatToRawIntBits(whole));
                due(word + " of " + k + " to double", widened(k, word, 7), Double.doubleToRawLongBits(whole));
            }
        }
    }

    @Sentence("(as this language does it)")
    static void p00_WIDENING_floats() {
        int[] bits = {0, LEAST, 1, LEAST + 1, 2, 3, 0x003fffff, 0x00400000, 0x007fffff, 0x00800000, 0x00800001, 0x3f800000, 0xbf800000,
            0x7f7fffff, 0xff7fffff, 0x7f800000, 0xff800000};
        for (int word : bits) {
            due(word + " float to double", widened(6, word, 7), Double.doubleToRawLongBits(Float.intBitsToFloat(word)));
        }
    }

    // ---- KINDS

    @Sentence("A KIND has 0 to 6 components, each of a CLASS, and is OPEN (at first) or CLOSED.")
    static void p00_KINDS() {
        for (int n = 0; n <= 6; n++) {
            GraphPhotographer g = new GraphPhotographer();
            int k = g.kind(0);
            for (int i = 0; i < n; i++) due("component " + i, g.component(k, i), i + 1);
            if (n == 6) due("a seventh", g.component(k, 4), FULL);
            due("OPEN at first", g.record(k), STATE);
            due("close", g.close(k), n);
            due("CLOSED", g.record(k), 0);
            for (int i = 0; i < n; i++) due("a WORD", g.get(0, i), 0);
            due("behind them", g.get(0, n), INDEX);
        }
    }

    // ---- THINGS

    @Sentence("THINGS are numbered as they are made (300 at most, no number twice)")
    static void p00_THINGS_300() {
        GraphPhotographer g = new GraphPhotographer();
        int row = g.rowOf(4);
        for (int i = 0; i < 300; i++) due("make", g.make(row, 0), i);
        due("the 301st", g.make(row, 0), FULL);
        due("that are there", g.count(2), 300);
        due("all GONE", g.sweep(), 300);
        due("no number twice", g.make(row, 0), FULL);
        due("nor for a BOX", g.box(4, 1), FULL);
        due("made ever", g.count(1), 300);
    }

    @Sentence("THINGS are numbered as they are made (300 at most, no number twice)")
    static void p00_THINGS_noNumberTwice() {
        GraphPhotographer g = new GraphPhotographer();
        int row = g.rowOf(4);
        for (int i = 0; i < 30; i++) {
            due("make", g.make(row, 0), i);
            due("GONE", g.sweep(), 1);
            due("it is not there", g.length(i), UNKNOWN);
        }
        due("made ever", g.count(1), 30);
        due("there", g.count(2), 0);
    }

    @Sentence("they are there, or GONE.")
    static void p00_THINGS_gone() {
        GraphPhotographer g = Scenes.rich();
        due("GONE", g.length(Scenes.GONE), UNKNOWN);
        due("the one ahead is there", g.length(Scenes.GONE - 1), 1);
        due("the one behind is there", g.length(Scenes.GONE + 1), 0);
        due("there", g.count(2), 9);
        due("it stays GONE", g.sweep() + g.length(Scenes.GONE), UNKNOWN);
    }

    @Sentence("of truth, byte, and of char, short, int, long from -128 to 127, it is one and the same THING for like WORDS")
    static void p00_BOXES_oneAndTheSame() {
        for (int k = 0; k < 8; k++) {
            for (long word : new long[] {0, 1, -1, 5, 126, 127, 128, 129, 255, -127, -128, -129, 65407, 65408, 65535, 32767, MOST, 1L << 40}) {
                if (k > 5 && (word < 0 || word == MOST)) continue;
                GraphPhotographer g = new GraphPhotographer();
                int first = g.box(k, word);
                due("the first one", first, 0);
                long told = Graphs.value(g, first, 0);
                boolean same = k < 2 || k < 6 && told >= -128 && told <= 127;
                due(told + " of " + k + " again", g.box(k, told), same ? 0 : 1);
                due(told + " of " + k + " once more", g.box(k, word), same ? 0 : 2);
            }
        }
    }

    @Sentence("of truth, byte, and of char, short, int, long from -128 to 127, it is one and the same THING for like WORDS")
    static void p00_BOXES_ofEachClassItsOwn() {
        GraphPhotographer g = new GraphPhotographer();
        for (int k = 0; k < 6; k++) due("1 of " + k, g.box(k, 1), k);
        for (int k = 0; k < 6; k++) due("1 of " + k + " again", g.box(k, 1), k);
        due("another WORD", g.box(4, 2), 6);
        due("all bytes", allBytes(), 256);
    }

    private static int allBytes() {
        GraphPhotographer g = new GraphPhotographer();
        for (int word = 0; word < 511; word++) g.box(1, word);
        return g.count(1);
    }

    @Sentence("as long as that is there.")
    static void p00_BOXES_asLongAsThatIsThere() {
        GraphPhotographer g = new GraphPhotographer();
        due("box(4, 5)", g.box(4, 5), 0);
        g.name(0, 0);
        g.sweep();
        due("a ROOT keeps it", g.box(4, 5), 0);
        g.name(0, NONE);
        g.photo();
        due("until it is GONE", g.box(4, 5), 0);
        g.sweep();
        due("then there is another one", g.box(4, 5), 1);
        due("which is the same from then on", g.box(4, 5), 1);
        due("the old one stays GONE", g.length(0), UNKNOWN);
        int k = Graphs.node(g);
        int loose = g.record(k);
        g.set(loose, 1, 1);
        g.sweep();
        due("a LOOSE RECORD keeps it", g.box(4, 5), 1);
        g.name(1, 1);
        g.photo();
        g.name(1, NONE);
        g.set(loose, 1, NONE);
        g.sweep();
        due("a PICTURE does not", g.box(4, 5), 3);
    }

    @Sentence("A BOX has a WORD")
    static void p00_BOXES_haveAWord() {
        GraphPhotographer g = new GraphPhotographer();
        for (int k = 0; k < 8; k++) {
            int x = g.box(k, 1);
            due("length", g.length(x), 1);
            due("a WORD", g.get(x, 0), 0);
            due("it", g.seen(), 1);
            due("no more", g.get(x, 1), INDEX);
            due("it stays so", g.put(x, 0, k, 0), CAST);
        }
    }

    @Sentence("A ROW has 0 to 16 ELEMENTS")
    static void p00_ROWS_0To16() {
        GraphPhotographer g = new GraphPhotographer();
        int row = g.rowOf(8);
        due("0", g.length(g.make(row, 0)), 0);
        due("16", g.length(g.make(row, 16)), 16);
        due("17", g.make(row, 17), OUTSIDE);
        due("-1", g.make(row, -1), SIZE);
        due("the last place", g.get(1, 15), 1);
        due("behind it", g.get(1, 16), INDEX);
    }

    @Sentence("each has a value of its CLASS: PLAIN, 0 (false) at first; else a THING that IS of it, or NONE (at first).")
    static void p00_ELEMENTS_atFirst() {
        GraphPhotographer g = Scenes.rich();
        for (int c : new int[] {0, 1, 2, 3, 4, 5, 6, 7, 8, 10, 17, Scenes.FACE, Scenes.NODE, Scenes.INTS}) {
            int x = g.make(g.rowOf(c), 16);
            for (int i = 0; i < 16; i += 15) {
                due("of a ROW of " + c, g.get(x, i), c < 8 ? 0 : 1);
                due("at first", g.seen(), c < 8 ? 0 : NONE);
            }
        }
        GraphPhotographer h = new GraphPhotographer();
        int k = h.kind(0);
        int[] of = {0, 7, 8, 14, k, 6};
        for (int c : of) h.component(k, c);
        h.close(k);
        int x = h.record(k);
        for (int i = 0; i < 6; i++) {
            boolean plain = of[i] < 8;
            due("of a RECORD " + i, h.get(x, i), plain ? 0 : 1);
            due("at first", h.seen(), plain ? 0 : NONE);
        }
    }

    @Sentence("each has a value of its CLASS: PLAIN, 0 (false) at first; else a THING that IS of it, or NONE (at first).")
    static void p00_ELEMENTS_thatIsOfIt() {
        GraphPhotographer g = Scenes.rich();
        int faces = g.make(g.rowOf(Scenes.FACE), 1);
        due("a KIND of the FACE", g.set(faces, 0, Scenes.LOOSE), 0);
        due("a KIND without it", g.set(faces, 0, Scenes.BARE), STORE);
        int rows = g.make(g.rowOf(Scenes.ANYS), 1);
        due("a ROW of what IS ANY", g.set(rows, 0, Scenes.NODE_ROW), 0);
        due("a ROW of ints", g.set(rows, 0, Scenes.INT_ROW), STORE);
        due("NONE", g.set(rows, 0, NONE), 0);
    }

    @Sentence("a RECORD (of a KIND) its components (they are ELEMENTS, too)")
    static void p00_RECORDS_components() {
        GraphPhotographer g = new GraphPhotographer();
        int k = g.kind(0);
        for (int i = 0; i < 6; i++) g.component(k, i == 5 ? 8 : i);
        g.close(k);
        int x = g.record(k);
        due("length", g.length(x), 6);
        for (int i = 1; i < 5; i++) due("put " + i, g.put(x, i, i, 50 + i), 0);
        due("set", g.set(x, 5, x), 0);
        for (int i = 1; i < 5; i++) due("ELEMENT " + i, Graphs.value(g, x, i), 50 + i);
        due("ELEMENT 5", Graphs.value(g, x, 5), x);
        g.name(0, x);
        due("along them", g.path(0, 0x66), x);
        due("behind them", g.get(x, 6), INDEX);
    }

    @Sentence("A RECORD is LOOSE at first, or SEALED.")
    static void p00_RECORDS_loose() {
        GraphPhotographer g = Scenes.rich();
        int x = g.record(Scenes.NODE);
        due("LOOSE at first", g.sealed(x), 0);
        due("seal", g.seal(x), 0);
        due("SEALED", g.sealed(x), 1);
        due("for good", g.seal(x), SEALED);
    }

    @Sentence("ROOTS 0 to 5 are a THING, or NONE (at first).")
    static void p00_ROOTS() {
        GraphPhotographer g = new GraphPhotographer();
        int x = g.box(4, 1);
        for (int r = -1; r < 7; r++) {
            boolean isOne = r >= 0 && r < 6;
            due("root(" + r + ")", g.root(r), isOne ? NONE : UNKNOWN);
            due("name(" + r + ")", g.name(r, x), isOne ? NONE : UNKNOWN);
            due("root(" + r + ")", g.root(r), isOne ? x : UNKNOWN);
        }
    }

    @Sentence("A THING REACHES itself, and what its ELEMENTS that are THINGS reach.")
    static void p00_REACHES() {
        GraphPhotographer g = new GraphPhotographer();
        int anys = g.rowOf(8);
        int ints = g.make(g.rowOf(4), 3);
        // numbers that are WORDS name no THINGS
        for (int i = 0; i < 3; i++) g.put(ints, i, 4, 1 + i);
        for (int i = 1; i < 5; i++) g.make(anys, 16);
        g.name(0, ints);
        g.photo();
        due("itself alone", g.picture(0, 0), 1);
        g.set(1, 15, 2);
        g.set(2, 0, 3);
        g.set(3, 7, 1);
        g.name(0, 1);
        g.photo();
        due("three in a circle", g.picture(1, 0), 3);
        due("not what has none of it", g.entry(1, 4, 0), NONE);
        g.set(4, 0, 1);
        g.photo();
        due("nor what has it", g.picture(2, 0), 3);
        g.set(3, 8, g.box(4, 500));
        g.photo();
        due("BOXES, too", g.picture(3, 0), 4);
    }
}
