/** Promises 1 to 8: a new object, and CLASSES. */
public final class ClassesTest {
    private static final int UNKNOWN = -101, OUTSIDE = -102, STATE = -103, FULL = -104;
    private static final Checks CHECKS = new Checks("ClassesTest");

    public static void main(String[] args) {
        aNewObject();
        faces();
        facesStopAtFortyClasses();
        kinds();
        components();
        closing();
        rows();
        rowsWhenFull();
        aboutAll();
        aboutMade();
        isOfFixed();
        isOfMade();
        isOfRows();
        CHECKS.end();
    }

    private static void due(String call, long got, long want) {
        CHECKS.due(call, got, want);
    }

    private static void aNewObject() {
        GraphPhotographer g = new GraphPhotographer();
        int[] known = {0, 1, 2, 3, 4, 5, 6, 7, 8, 10, 11, 12, 13, 14, 15, 16, 17};
        for (int c : known) due("1: is(c, c)", g.is(c, c), 1);
        for (int c : new int[] {-1, 9, 18, 19, 20, 59, 60, 100, Integer.MAX_VALUE, Integer.MIN_VALUE}) {
            due("1: about(" + c + ", 0)", g.about(c, 0), UNKNOWN);
        }
        for (int what = 0; what < 6; what++) due("1: count(" + what + ")", g.count(what), 0);
        for (int r = 0; r < 6; r++) due("1: root(" + r + ")", g.root(r), -1);
        due("1: seen()", g.seen(), 0);
        due("1: misfit()", g.misfit(), -1);
        due("1: finding()", g.finding(), 0);
        due("1: groups()", g.groups(), 0);
        due("1: picture(0, 0)", g.picture(0, 0), UNKNOWN);
        due("1: classOf(0)", g.classOf(0), UNKNOWN);
        long h = 29;
        for (int r = 0; r < 6; r++) h = 31 * h - 1;
        due("1: digest()", g.digest(), 31 * h);
    }

    private static void faces() {
        GraphPhotographer g = new GraphPhotographer();
        for (int i = 0; i < 8; i++) due("2: face()", g.face(), 20 + i);
        due("2: a ninth face()", g.face(), FULL);
        due("2: count(5)", g.count(5), 8);
        due("2: count(0)", g.count(0), 8);
        due("2: another class goes", g.kind(255), 28);
    }

    private static void facesStopAtFortyClasses() {
        GraphPhotographer g = new GraphPhotographer();
        for (int i = 0; i < 39; i++) g.kind(0);
        due("2: the 40th", g.face(), 59);
        due("2: the 41st", g.face(), FULL);
        due("2: count(5)", g.count(5), 1);
    }

    private static void kinds() {
        GraphPhotographer g = new GraphPhotographer();
        due("3: kind(1) without a FACE", g.kind(1), OUTSIDE);
        due("3: kind(0)", g.kind(0), 20);
        g.face();
        g.face();
        due("3: kind(4)", g.kind(4), OUTSIDE);
        due("3: kind(7)", g.kind(7), OUTSIDE);
        due("3: kind(-1)", g.kind(-1), OUTSIDE);
        due("3: kind(1 << 31)", g.kind(1 << 31), OUTSIDE);
        due("3: kind(2)", g.kind(2), 23);
        due("3: it is its FACE", g.is(23, 22), 1);
        due("3: it is not the other one", g.is(23, 21), 0);
        for (int i = 0; i < 36; i++) due("3: kind(3)", g.kind(3), 24 + i);
        due("3: the 41st", g.kind(3), FULL);
        due("3: OUTSIDE comes ahead of FULL", g.kind(4), OUTSIDE);
    }

    private static void components() {
        GraphPhotographer g = new GraphPhotographer();
        int k = g.kind(0);
        due("4: component(k, 9)", g.component(k, 9), UNKNOWN);
        due("4: component(8, 4)", g.component(8, 4), UNKNOWN);
        due("4: component(99, 4)", g.component(99, 4), UNKNOWN);
        int face = g.face();
        due("4: a FACE is no KIND", g.component(face, 4), UNKNOWN);
        for (int i = 0; i < 6; i++) due("4: component", g.component(k, i == 5 ? k : i), i + 1);
        due("4: a seventh", g.component(k, 4), FULL);
        due("4: c UNKNOWN ahead of FULL", g.component(k, 9), UNKNOWN);
        g.close(k);
        due("4: CLOSED: STATE ahead of FULL", g.component(k, 4), STATE);
        due("4: c UNKNOWN ahead of STATE", g.component(k, -1), UNKNOWN);
        for (int i = 0; i < 6; i++) due("4: about(k, 5 + i)", g.about(k, 5 + i), i == 5 ? k : i);
    }

    private static void closing() {
        GraphPhotographer g = new GraphPhotographer();
        int k = g.kind(0);
        int l = g.kind(0);
        g.component(l, 4);
        g.component(l, 8);
        due("5: record of an OPEN one", g.record(k), STATE);
        due("5: close(k)", g.close(k), 0);
        due("5: close(l)", g.close(l), 2);
        due("5: again", g.close(l), STATE);
        due("5: close(4)", g.close(4), UNKNOWN);
        due("5: close(99)", g.close(99), UNKNOWN);
        int row = g.rowOf(4);
        due("5: close of a ROW", g.close(row), UNKNOWN);
        due("5: record(k)", g.record(k), 0);
    }

    private static void rows() {
        GraphPhotographer g = new GraphPhotographer();
        due("6: rowOf(4)", g.rowOf(4), 20);
        due("6: rowOf(8)", g.rowOf(8), 21);
        due("6: rowOf(14)", g.rowOf(14), 22);
        due("6: rowOf(4) again", g.rowOf(4), 20);
        due("6: rowOf(9)", g.rowOf(9), UNKNOWN);
        due("6: rowOf(-1)", g.rowOf(-1), UNKNOWN);
        due("6: rowOf(23)", g.rowOf(23), UNKNOWN);
        due("6: two", g.rowOf(20), 23);
        due("6: three", g.rowOf(23), 24);
        due("6: four", g.rowOf(24), 25);
        due("6: five", g.rowOf(25), OUTSIDE);
        due("6: an OPEN KIND has one too", g.rowOf(g.kind(0)), 27);
        due("6: count(0)", g.count(0), 8);
    }

    private static void rowsWhenFull() {
        GraphPhotographer g = new GraphPhotographer();
        int row = g.rowOf(4);
        g.rowOf(g.rowOf(g.rowOf(row)));
        for (int i = 0; i < 36; i++) g.kind(0);
        due("6: one that there is", g.rowOf(4), row);
        due("6: a new one", g.rowOf(5), FULL);
        due("6: OUTSIDE ahead of FULL", g.rowOf(23), OUTSIDE);
        due("6: the last CLASS is 59", g.about(59, 0), 4);
        due("6: and 60 is none", g.about(60, 0), UNKNOWN);
    }

    private static void aboutAll() {
        GraphPhotographer g = new GraphPhotographer();
        for (int c = 0; c < 18; c++) {
            int sort = c < 8 ? 0 : c == 8 ? 1 : 2;
            due("7: about(" + c + ", 0)", g.about(c, 0), c == 9 ? UNKNOWN : sort);
            for (int what = 1; what < 11 && c != 9; what++) {
                due("7: about(" + c + ", " + what + ")", g.about(c, what), what == 1 || what > 4 ? -1 : 0);
            }
        }
        due("7: about(4, -1)", g.about(4, -1), OUTSIDE);
        due("7: about(4, 11)", g.about(4, 11), OUTSIDE);
        due("7: UNKNOWN ahead of OUTSIDE", g.about(9, 11), UNKNOWN);
    }

    private static void aboutMade() {
        GraphPhotographer g = new GraphPhotographer();
        int face = g.face();
        int other = g.face();
        int k = g.kind(3);
        g.component(k, 5);
        g.component(k, k);
        int row = g.rowOf(k);
        int rows = g.rowOf(row);
        due("7: sort of a FACE", g.about(other, 0), 3);
        due("7: a FACE has no FACES", g.about(other, 4), 0);
        due("7: sort of a KIND", g.about(k, 0), 4);
        due("7: its ELEMENTS", g.about(k, 1), -1);
        due("7: its ROWS", g.about(k, 2), 0);
        due("7: its components", g.about(k, 3), 2);
        due("7: its FACES", g.about(k, 4), 3);
        due("7: its first one", g.about(k, 5), 5);
        due("7: its second one", g.about(k, 6), k);
        due("7: its third one", g.about(k, 7), -1);
        due("7: its sixth one", g.about(k, 10), -1);
        due("7: sort of a ROW", g.about(rows, 0), 5);
        due("7: its ELEMENTS", g.about(rows, 1), row);
        due("7: its ROWS", g.about(rows, 2), 2);
        due("7: its components", g.about(rows, 3), 0);
        due("7: its FACES", g.about(rows, 4), 0);
        due("7: its first one", g.about(rows, 5), -1);
        due("7: a FACE without a KIND", g.about(face, 3), 0);
    }

    private static void isOfFixed() {
        GraphPhotographer g = new GraphPhotographer();
        for (int a = 0; a < 18; a++) {
            for (int b = 0; b < 18; b++) {
                boolean is = a == b || b == 8 && a > 8;
                due("8: is(" + a + ", " + b + ")", g.is(a, b), a == 9 || b == 9 ? UNKNOWN : is ? 1 : 0);
            }
        }
        due("8: is(99, 9)", g.is(99, 9), UNKNOWN);
    }

    private static void isOfMade() {
        GraphPhotographer g = new GraphPhotographer();
        int face = g.face();
        int other = g.face();
        int k = g.kind(2);
        int l = g.kind(2);
        due("8: KIND, ANY", g.is(k, 8), 1);
        due("8: FACE, ANY", g.is(face, 8), 1);
        due("8: ANY, FACE", g.is(8, face), 0);
        due("8: KIND, its FACE", g.is(k, other), 1);
        due("8: KIND, another FACE", g.is(k, face), 0);
        due("8: FACE, KIND", g.is(other, k), 0);
        due("8: KINDS with like FACES", g.is(k, l), 0);
        due("8: FACES", g.is(face, other), 0);
        due("8: KIND, int", g.is(k, 4), 0);
        due("8: KIND, BOX", g.is(k, 14), 0);
    }

    private static void isOfRows() {
        GraphPhotographer g = new GraphPhotographer();
        int face = g.face();
        int k = g.kind(1);
        int ints = g.rowOf(4);
        int longs = g.rowOf(5);
        int anys = g.rowOf(8);
        int kinds = g.rowOf(k);
        int facesRow = g.rowOf(face);
        int rowsOfKinds = g.rowOf(kinds);
        int rowsOfFaces = g.rowOf(facesRow);
        int rowsOfAnys = g.rowOf(anys);
        int rowsOfInts = g.rowOf(ints);
        due("8: ints, ANY", g.is(ints, 8), 1);
        due("8: ints, anys", g.is(ints, anys), 0);
        due("8: ints, longs", g.is(ints, longs), 0);
        due("8: ints, face", g.is(ints, face), 0);
        due("8: face, ints", g.is(face, ints), 0);
        due("8: ints, BOX", g.is(ints, 14), 0);
        due("8: BOX, ints", g.is(14, ints), 0);
        due("8: kinds, faces", g.is(kinds, facesRow), 1);
        due("8: kinds, anys", g.is(kinds, anys), 1);
        due("8: faces, kinds", g.is(facesRow, kinds), 0);
        due("8: kinds, face", g.is(kinds, face), 0);
        due("8: two deep, faces", g.is(rowsOfKinds, rowsOfFaces), 1);
        due("8: two deep, anys", g.is(rowsOfKinds, rowsOfAnys), 1);
        due("8: two deep, one of anys", g.is(rowsOfKinds, anys), 1);
        due("8: ints two deep, anys", g.is(rowsOfInts, anys), 1);
        due("8: ints two deep, anys two deep", g.is(rowsOfInts, rowsOfAnys), 0);
        due("8: back", g.is(rowsOfAnys, rowsOfKinds), 0);
        int four = g.rowOf(g.rowOf(rowsOfKinds));
        int fourOfAnys = g.rowOf(g.rowOf(rowsOfAnys));
        due("8: four deep", g.is(four, fourOfAnys), 1);
        due("8: four deep, back", g.is(fourOfAnys, four), 0);
    }
}
