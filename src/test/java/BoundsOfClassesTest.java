/** Promises 1 to 8, sentence by sentence: a new object, and CLASSES. */
public final class BoundsOfClassesTest extends Bounds {
    /** A CLASS of each sort but KINDS. */
    private static final int[] NO_KINDS = {0, 7, 8, 10, 17, Scenes.FACE, Scenes.INTS};
    private static final int[] NO_CLASSES = {LEAST, -101, -1, 9, 18, 19, Scenes.NO_CLASS, 59, 60, 61, 1000, MOST};

    public static void main(String[] args) throws IllegalAccessException {
        runAll(BoundsOfClassesTest.class);
    }

    // ---- promise 1

    @Sentence("CLASSES to 17")
    static void p01_classesTo17() {
        GraphPhotographer g = new GraphPhotographer();
        for (int c = -3; c < 62; c++) {
            boolean isOne = c >= 0 && c <= 17 && c != 9;
            int sort = c < 8 ? 0 : c == 8 ? 1 : 2;
            due("about(" + c + ", 0)", g.about(c, 0), isOne ? sort : UNKNOWN);
        }
        due("count(0)", g.count(0), 0);
        due("count(5)", g.count(5), 0);
    }

    @Sentence("no THINGS")
    static void p01_noThings() {
        GraphPhotographer g = new GraphPhotographer();
        due("count(1)", g.count(1), 0);
        due("count(2)", g.count(2), 0);
        due("classOf(0)", g.classOf(0), UNKNOWN);
        due("groups()", g.groups(), 0);
        due("sweep()", g.sweep(), 0);
        due("the first number", g.box(4, 1), 0);
    }

    @Sentence("no PICTURES")
    static void p01_noPictures() {
        GraphPhotographer g = new GraphPhotographer();
        due("count(3)", g.count(3), 0);
        due("picture(0, 0)", g.picture(0, 0), UNKNOWN);
        due("count(4)", g.count(4), 0);
        due("the first number", g.photo(), 0);
    }

    @Sentence("ROOTS NONE")
    static void p01_rootsNone() {
        GraphPhotographer g = new GraphPhotographer();
        for (int r = 0; r < 6; r++) due("root(" + r + ")", g.root(r), NONE);
        for (int r = 0; r < 6; r++) due("path(" + r + ", 0)", g.path(r, 0), NONE);
    }

    // ---- promise 2

    @Sentence("A FACE: its CLASS.")
    static void p02_itsClass() {
        GraphPhotographer g = new GraphPhotographer();
        due("the first one", g.face(), 20);
        g.kind(0);
        due("behind a KIND", g.face(), 22);
        g.rowOf(4);
        due("behind a ROW", g.face(), 24);
        due("its sort", g.about(24, 0), 3);
    }

    @Sentence("FULL.")
    static void p02_FULL_aNinth() {
        GraphPhotographer g = new GraphPhotographer();
        for (int i = 0; i < 8; i++) due("face()", g.face(), 20 + i);
        due("a ninth", g.face(), FULL);
        refused("a ninth", () -> eightFaces(), h -> h.face(), FULL);
        due("another CLASS still goes", g.kind(0), 28);
    }

    @Sentence("FULL.")
    static void p02_FULL_a41stClass() {
        GraphPhotographer g = new GraphPhotographer();
        for (int i = 0; i < 39; i++) g.kind(0);
        due("the 40th CLASS", g.face(), 59);
        due("the 41st", g.face(), FULL);
        refused("the 41st", Scenes::fullOfClasses, h -> h.face(), FULL);
    }

    private static GraphPhotographer eightFaces() {
        GraphPhotographer g = Scenes.rich();
        for (int n = g.count(5); n < 8; n++) g.face();
        return g;
    }

    // ---- promise 3

    @Sentence("A KIND with FACES (a bit each, in the order in which they were made): its CLASS.")
    static void p03_bitsInTheOrderOfFaces() {
        GraphPhotographer g = new GraphPhotographer();
        int[] faces = new int[8];
        for (int i = 0; i < 8; i++) {
            if (i % 2 == 1) g.rowOf(i);
            faces[i] = g.face();
        }
        for (int i = 0; i < 8; i++) {
            int k = g.kind(1 << i);
            due("kind(1 << " + i + ")", k, 32 + i);
            for (int j = 0; j < 8; j++) due("is(" + i + ", " + j + ")", g.is(k, faces[j]), i == j ? 1 : 0);
        }
        int all = g.kind(255);
        for (int j = 0; j < 8; j++) due("all of them", g.is(all, faces[j]), 1);
        int none = g.kind(0);
        for (int j = 0; j < 8; j++) due("none of them", g.is(none, faces[j]), 0);
    }

    @Sentence("OUTSIDE: a bit names no FACE")
    static void p03_OUTSIDE_lastAndFirstBit() {
        for (int faces = 0; faces <= 8; faces++) {
            GraphPhotographer g = new GraphPhotographer();
            for (int i = 0; i < faces; i++) g.face();
            for (int bit = faces; bit < 32; bit++) due(faces + " FACES, bit " + bit, g.kind(1 << bit), OUTSIDE);
            due(faces + " FACES, all and one more", g.kind((2 << faces) - 1), OUTSIDE);
            due(faces + " FACES, -1", g.kind(-1), OUTSIDE);
            due(faces + " FACES, all", g.kind((1 << faces) - 1), 20 + faces);
            due("nothing else was made", g.count(0), faces + 1);
        }
    }

    @Sentence("OUTSIDE: a bit names no FACE")
    static void p03_OUTSIDE_changesNothing() {
        refused("kind(4)", Scenes::rich, g -> g.kind(4), OUTSIDE);
        refused("kind(7)", Scenes::rich, g -> g.kind(7), OUTSIDE);
        refused("kind(1 << 31)", Scenes::rich, g -> g.kind(LEAST), OUTSIDE);
    }

    @Sentence("FULL.")
    static void p03_FULL() {
        GraphPhotographer g = new GraphPhotographer();
        for (int i = 0; i < 40; i++) due("kind(0)", g.kind(0), 20 + i);
        due("the 41st", g.kind(0), FULL);
        refused("the 41st", Scenes::fullOfClasses, h -> h.kind(3), FULL);
        refused("OUTSIDE ahead of FULL", Scenes::fullOfClasses, h -> h.kind(4), OUTSIDE);
    }

    // ---- promise 4

    @Sentence("An OPEN KIND gets a component of a CLASS: how many it has.")
    static void p04_howManyItHas() {
        GraphPhotographer g = new GraphPhotographer();
        int k = g.kind(0);
        int[] of = {0, 8, 17, k, g.face(), g.rowOf(k)};
        for (int i = 0; i < 6; i++) due("component " + i, g.component(k, of[i]), i + 1);
        for (int i = 0; i < 6; i++) due("about(k, 5 + " + i + ")", g.about(k, 5 + i), of[i]);
        g.close(k);
        due("its length", g.length(g.record(k)), 6);
    }

    @Sentence("UNKNOWN: k (no KIND, too), c")
    static void p04_UNKNOWN_k() {
        for (int k : NO_CLASSES) refused("component(" + k + ", 4)", Scenes::rich, g -> g.component(k, 4), UNKNOWN);
        for (int k : NO_KINDS) refused("component(" + k + ", 4)", Scenes::rich, g -> g.component(k, 4), UNKNOWN);
    }

    @Sentence("UNKNOWN: k (no KIND, too), c")
    static void p04_UNKNOWN_c() {
        for (int c : NO_CLASSES) refused("component(OPEN, " + c + ")", Scenes::rich, g -> g.component(Scenes.OPEN, c), UNKNOWN);
        refused("ahead of STATE", Scenes::rich, g -> g.component(Scenes.NODE, 9), UNKNOWN);
        refused("ahead of FULL", BoundsOfClassesTest::sixComponents, g -> g.component(Scenes.OPEN, 9), UNKNOWN);
    }

    @Sentence("STATE")
    static void p04_STATE() {
        refused("of a CLOSED KIND", Scenes::rich, g -> g.component(Scenes.NODE, 4), STATE);
        refused("without components", Scenes::rich, g -> g.component(Scenes.HOLLOW, 4), STATE);
        GraphPhotographer g = sixComponents();
        g.close(Scenes.OPEN);
        due("ahead of FULL", g.component(Scenes.OPEN, 4), STATE);
    }

    @Sentence("FULL.")
    static void p04_FULL_aSeventh() {
        due("the sixth", sixComponents().about(Scenes.OPEN, 3), 6);
        refused("a seventh", BoundsOfClassesTest::sixComponents, g -> g.component(Scenes.OPEN, 4), FULL);
    }

    private static GraphPhotographer sixComponents() {
        GraphPhotographer g = Scenes.rich();
        for (int i = 1; i < 6; i++) g.component(Scenes.OPEN, i);
        return g;
    }

    // ---- promise 5

    @Sentence("A KIND is CLOSED: how many components it has.")
    static void p05_howManyItHas() {
        for (int n = 0; n <= 6; n++) {
            GraphPhotographer g = new GraphPhotographer();
            int k = g.kind(0);
            for (int i = 0; i < n; i++) g.component(k, 4);
            due("OPEN ahead of it", g.record(k), STATE);
            due("close with " + n, g.close(k), n);
            due("CLOSED behind it", g.record(k), 0);
            due("and no more components", g.component(k, 4), STATE);
            due("length", g.length(0), n);
        }
    }

    @Sentence("UNKNOWN (no KIND, too)")
    static void p05_UNKNOWN() {
        for (int k : NO_CLASSES) refused("close(" + k + ")", Scenes::rich, g -> g.close(k), UNKNOWN);
        for (int k : NO_KINDS) refused("close(" + k + ")", Scenes::rich, g -> g.close(k), UNKNOWN);
    }

    @Sentence("STATE: it is already.")
    static void p05_STATE() {
        refused("again", Scenes::rich, g -> g.close(Scenes.NODE), STATE);
        refused("again, without components", Scenes::rich, g -> g.close(Scenes.HOLLOW), STATE);
    }

    // ---- promise 6

    @Sentence("The ROW of a CLASS: its CLASS.")
    static void p06_ofEachClass() {
        GraphPhotographer g = new GraphPhotographer();
        int next = 20;
        for (int c = 0; c < 18; c++) {
            if (c == 9) continue;
            due("rowOf(" + c + ")", g.rowOf(c), next);
            due("again", g.rowOf(c), next);
            due("its ELEMENTS", g.about(next, 1), c);
            next++;
        }
        int face = g.face();
        int k = g.kind(0);
        due("of a FACE", g.rowOf(face), next + 2);
        due("of an OPEN KIND", g.rowOf(k), next + 3);
        due("of a ROW", g.rowOf(20), next + 4);
        due("again", g.rowOf(20), next + 4);
        due("count(0)", g.count(0), next + 5 - 20);
    }

    @Sentence("UNKNOWN")
    static void p06_UNKNOWN() {
        for (int c : NO_CLASSES) refused("rowOf(" + c + ")", Scenes::rich, g -> g.rowOf(c), UNKNOWN);
        refused("ahead of FULL", Scenes::fullOfClasses, g -> g.rowOf(9), UNKNOWN);
        refused("ahead of FULL, the next number", Scenes::fullOfClasses, g -> g.rowOf(60), UNKNOWN);
    }

    @Sentence("OUTSIDE: that is four ROWS in one another already")
    static void p06_OUTSIDE_aFifth() {
        for (int c : new int[] {0, 8, 14}) {
            GraphPhotographer g = new GraphPhotographer();
            int row = c;
            for (int n = 1; n <= 4; n++) {
                row = g.rowOf(row);
                due(n + " in one another", row, 19 + n);
                due("as about() tells", g.about(row, 2), n);
            }
            due("a fifth", g.rowOf(row), OUTSIDE);
        }
        refused("a fifth", Scenes::rich, g -> g.rowOf(Scenes.FOUR), OUTSIDE);
        refused("ahead of FULL", Scenes::fullOfClasses, g -> g.rowOf(Scenes.FOUR), OUTSIDE);
    }

    @Sentence("FULL.")
    static void p06_FULL() {
        GraphPhotographer g = new GraphPhotographer();
        for (int i = 0; i < 39; i++) g.kind(0);
        due("the 40th CLASS", g.rowOf(20), 59);
        due("the 41st", g.rowOf(21), FULL);
        due("the one that there is", g.rowOf(20), 59);
        refused("the 41st", Scenes::fullOfClasses, h -> h.rowOf(0), FULL);
        refused("of the last CLASS", Scenes::fullOfClasses, h -> h.rowOf(59), FULL);
        refused("the one that there is changes nothing", Scenes::fullOfClasses, h -> h.rowOf(8), Scenes.ANYS);
    }

    // ---- promise 7

    private static void about(int what, int[] classes, int[] want) {
        GraphPhotographer g = Scenes.rich();
        for (int i = 0; i < classes.length; i++) {
            due("about(" + classes[i] + ", " + what + ")", g.about(classes[i], what), want[i]);
        }
    }

    private static final int[] SOME = {0, 7, 8, 10, 17, Scenes.FACE, Scenes.NODE, Scenes.HOLLOW, Scenes.OPEN, Scenes.INTS,
        Scenes.ANYS, Scenes.INT_ROWS, Scenes.THREE, Scenes.FOUR};

    @Sentence("what = 0 its sort: 0 PLAIN, 1 ANY, 2 BOX, 3 FACE, 4 KIND, 5 ROW")
    static void p07_what0() {
        about(0, SOME, new int[] {0, 0, 1, 2, 2, 3, 4, 4, 4, 5, 5, 5, 5, 5});
    }

    @Sentence("1 the CLASS of a ROW's ELEMENTS (NONE)")
    static void p07_what1() {
        about(1, SOME, new int[] {-1, -1, -1, -1, -1, -1, -1, -1, -1, 4, 8, Scenes.INTS, Scenes.INT_ROWS, Scenes.THREE});
    }

    @Sentence("2 how many ROWS in one another (0)")
    static void p07_what2() {
        about(2, SOME, new int[] {0, 0, 0, 0, 0, 0, 0, 0, 0, 1, 1, 2, 3, 4});
    }

    @Sentence("3 how many components a KIND has (0)")
    static void p07_what3() {
        about(3, SOME, new int[] {0, 0, 0, 0, 0, 0, 2, 0, 1, 0, 0, 0, 0, 0});
    }

    @Sentence("4 bits of its FACES (0)")
    static void p07_what4() {
        about(4, SOME, new int[] {0, 0, 0, 0, 0, 0, 1, 0, 2, 0, 0, 0, 0, 0});
        GraphPhotographer g = new GraphPhotographer();
        for (int i = 0; i < 8; i++) g.face();
        due("all of them", g.about(g.kind(255), 4), 255);
        due("of the last FACE itself", g.about(27, 4), 0);
    }

    @Sentence("5 + i the CLASS of component i (NONE)")
    static void p07_what5To10() {
        about(5, SOME, new int[] {-1, -1, -1, -1, -1, -1, 4, -1, 4, -1, -1, -1, -1, -1});
        about(6, SOME, new int[] {-1, -1, -1, -1, -1, -1, 8, -1, -1, -1, -1, -1, -1, -1});
        for (int what = 7; what < 11; what++) {
            about(what, SOME, new int[] {-1, -1, -1, -1, -1, -1, -1, -1, -1, -1, -1, -1, -1, -1});
        }
        due("the last of six", sixComponents().about(Scenes.OPEN, 10), 5);
    }

    @Sentence("UNKNOWN")
    static void p07_UNKNOWN() {
        for (int c : NO_CLASSES) refused("about(" + c + ", 0)", Scenes::rich, g -> g.about(c, 0), UNKNOWN);
        refused("ahead of OUTSIDE", Scenes::rich, g -> g.about(9, 11), UNKNOWN);
        refused("ahead of OUTSIDE, below", Scenes::rich, g -> g.about(Scenes.NO_CLASS, -1), UNKNOWN);
    }

    @Sentence("OUTSIDE: what is not 0 .. 10.")
    static void p07_OUTSIDE() {
        for (int what : new int[] {LEAST, -101, -1, 11, 12, MOST}) {
            refused("about(NODE, " + what + ")", Scenes::rich, g -> g.about(Scenes.NODE, what), OUTSIDE);
            refused("about(4, " + what + ")", Scenes::rich, g -> g.about(4, what), OUTSIDE);
        }
    }

    // ---- promise 8

    @Sentence("Whether CLASS a IS CLASS b: 1, 0.")
    static void p08_whether() {
        GraphPhotographer g = Scenes.rich();
        due("NODE, its FACE", g.is(Scenes.NODE, Scenes.FACE), 1);
        due("NODE, the OTHER_FACE", g.is(Scenes.NODE, Scenes.OTHER_FACE), 0);
        due("an OPEN KIND, its FACE", g.is(Scenes.OPEN, Scenes.OTHER_FACE), 1);
        due("a KIND without FACES, ANY", g.is(Scenes.HOLLOW, 8), 1);
        due("the first PLAIN one, ANY", g.is(0, 8), 0);
        due("the last PLAIN one, ANY", g.is(7, 8), 0);
    }

    @Sentence("UNKNOWN.")
    static void p08_UNKNOWN() {
        for (int c : NO_CLASSES) {
            refused("is(" + c + ", 8)", Scenes::rich, g -> g.is(c, 8), UNKNOWN);
            refused("is(8, " + c + ")", Scenes::rich, g -> g.is(8, c), UNKNOWN);
            refused("is(" + c + ", itself)", Scenes::rich, g -> g.is(c, c), UNKNOWN);
        }
    }
}
