import java.util.Random;

/** WORDS and WIDENING (promises 12, 15, 16), against Java's own conversions. */
public final class WordsTest {
    private static final int OUTSIDE = -102, UNLIKE = -15;
    private static final Checks CHECKS = new Checks("WordsTest");
    private static final long[] EDGES = {
        0, 1, -1, 2, 127, 128, -128, -129, 255, 256, 32767, 32768, -32768, 65535, 65536, 8388607, 8388608, 16777215,
        16777216, 16777217, 16777218, 16777219, 33554433, 33554434, 33554435, 33554438, 33554431, -16777217, -33554435,
        Integer.MAX_VALUE, Integer.MIN_VALUE, 1L << 31, 1L << 32, (1L << 53) - 1, 1L << 53, (1L << 53) + 1, (1L << 53) + 2,
        (1L << 53) + 3, (1L << 54) - 1, (1L << 54) + 2, (1L << 54) + 6, -(1L << 53) - 1, Long.MAX_VALUE, Long.MIN_VALUE,
        Long.MAX_VALUE - 512, Long.MAX_VALUE - 511, Long.MAX_VALUE - 1023, Long.MIN_VALUE + 1, 0x7fffffbfffffffffL,
        0x7fffffc000000000L, 0x7fffff4000000000L, 0x7fffff4000000001L, 0x7ffffe4000000000L,
    };
    private static final int[] FLOATS = {
        0, 0x80000000, 1, 2, 3, 0x80000001, 0x007fffff, 0x00400000, 0x003fffff, 0x00800000, 0x00800001, 0x3f800000,
        0x3fc00000, 0xbfc00000, 0x7f7fffff, 0xff7fffff, 0x7f800000, 0xff800000, 0x4b800000, 0x34000000,
    };

    public static void main(String[] args) {
        tellings();
        noNumbers();
        ways();
        widenWholes();
        widenFloats();
        CHECKS.end();
    }

    private static void due(String call, long got, long want) {
        CHECKS.due(call, got, want);
    }

    private static long told(GraphPhotographer g, int k, long word) {
        int row = g.count(1) == 0 ? g.make(g.rowOf(k), 1) : 0;
        due("put of " + k + " into " + k, g.put(row, 0, k, word), 0);
        due("get", g.get(row, 0), 0);
        return g.seen();
    }

    private static void tellings() {
        for (long w : EDGES) {
            long[] want = {w & 1, (byte) w, (char) w, (short) w, (int) w, w};
            for (int k = 0; k < 6; k++) due("told(" + k + ", " + w + ")", told(new GraphPhotographer(), k, w), want[k]);
        }
        long high = 0x12345678L << 32;
        due("a float's lowest 32 bits", told(new GraphPhotographer(), 6, high | 0xbfc00000L), (int) 0xbfc00000L);
        due("all of a double", told(new GraphPhotographer(), 7, 0xbff8000000000001L), 0xbff8000000000001L);
    }

    private static void noNumbers() {
        GraphPhotographer g = new GraphPhotographer();
        g.make(g.rowOf(7), 1);
        for (int bits : new int[] {0x7f800001, 0x7fc00000, 0x7fffffff, 0xff800001, 0xffffffff}) {
            due("box of a float that is none", g.box(6, bits), OUTSIDE);
            due("put of a float that is none", g.put(0, 0, 6, bits & 0xffffffffL), OUTSIDE);
            due("the highest 32 bits do not count", g.put(0, 0, 6, (long) bits << 32), 0);
        }
        for (long bits : new long[] {0x7ff0000000000001L, 0x7ff8000000000000L, 0xfff0000000000001L, -1L}) {
            due("box of a double that is none", g.box(7, bits), OUTSIDE);
            due("put of a double that is none", g.put(0, 0, 7, bits), OUTSIDE);
            due("as a long it is one", g.put(0, 0, 5, bits), 0);
        }
        due("infinite floats are taken", g.box(6, 0x7f800000L), 1);
        due("and below 0", g.box(6, 0xff800000L), 2);
        due("infinite doubles are taken", g.box(7, 0x7ff0000000000000L), 3);
        due("and below 0", g.box(7, 0xfff0000000000000L), 4);
    }

    /** Which CLASSES widen to which, by put() and by set() of a BOX. */
    private static void ways() {
        String[] to = {"0", "134567", "24567", "34567", "4567", "567", "67", "7"};
        for (int from = 0; from < 8; from++) {
            GraphPhotographer g = new GraphPhotographer();
            int box = g.box(from, 1);
            for (int k = 0; k < 8; k++) {
                int row = g.make(g.rowOf(k), 1);
                int want = to[from].indexOf('0' + k) >= 0 ? 0 : UNLIKE;
                due("put " + from + " into " + k, g.put(row, 0, from, 1), want);
                due("set " + from + " into " + k, g.set(row, 0, box), want);
            }
        }
    }

    private static void widenWholes() {
        GraphPhotographer g = null;
        Random random = new Random(5);
        for (int n = 0; n < 40000; n++) {
            // within its 512 calls each
            if (n % 8 == 0) g = new GraphPhotographer();
            int longs = n % 8 == 0 ? g.make(g.rowOf(5), 1) : 0;
            int floats = n % 8 == 0 ? g.make(g.rowOf(6), 1) : 1;
            int doubles = n % 8 == 0 ? g.make(g.rowOf(7), 1) : 2;
            long w = n < EDGES.length ? EDGES[n] : random.nextLong() >> random.nextInt(64);
            if (n % 3 == 0 && n >= EDGES.length) w &= -1L << random.nextInt(40);
            long[] wholes = {0, (byte) w, (char) w, (short) w, (int) w, w};
            for (int k = 1; k < 6; k++) {
                due("", g.put(longs, 0, k, w) + g.put(floats, 0, k, w) + g.put(doubles, 0, k, w), 0);
                g.get(longs, 0);
                due("long of " + k + " " + w, g.seen(), wholes[k]);
                g.get(floats, 0);
                due("float of " + k + " " + w, g.seen(), Float.floatToRawIntBits((float) wholes[k]));
                g.get(doubles, 0);
                due("double of " + k + " " + w, g.seen(), Double.doubleToRawLongBits((double) wholes[k]));
            }
        }
    }

    private static void widenFloats() {
        GraphPhotographer g = null;
        Random random = new Random(6);
        for (int n = 0; n < 40000; n++) {
            if (n % 100 == 0) g = new GraphPhotographer();
            int doubles = n % 100 == 0 ? g.make(g.rowOf(7), 1) : 0;
            int bits = n < FLOATS.length ? FLOATS[n] : random.nextInt();
            if (n % 3 == 0 && n >= FLOATS.length) bits &= 0x807fffff >> random.nextInt(20);
            float value = Float.intBitsToFloat(bits);
            boolean isNone = Float.isNaN(value);
            due("put of float " + bits, g.put(doubles, 0, 6, bits), isNone ? OUTSIDE : 0);
            if (isNone) continue;
            g.get(doubles, 0);
            due("double of float " + bits, g.seen(), Double.doubleToRawLongBits(value));
        }
    }
}
