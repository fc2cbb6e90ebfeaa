import java.util.Random;

/** Runs of 512 calls with arguments by chance (the same at each time), on the program and on the Model. */
public final class RandomRunsTest {
    private static final int RUNS = 1500, CALLS = 512, MOST_OF_A_STEP = 12;
    private static final long[] WORDS = {
        0, 1, 2, -1, 5, 127, 128, -128, -129, 255, 256, 300, 32767, 32768, 65408, 65535, 65536, 16777217, 33554433,
        2147483647L, -2147483648L, 2147483648L, 4294967295L, 9007199254740993L, Long.MAX_VALUE, Long.MIN_VALUE,
        1069547520L, 0x7f800000L, 0x7fc00000L, 0x7f800001L, 0xff800000L, 0xffc00000L, 0x80000000L,
        0x3ff8000000000000L, 0x7ff0000000000000L, 0x7ff8000000000000L, 0x7ff0000000000001L, 0xfff0000000000000L,
    };

    private final Checks checks;
    private final Random random;
    private final GraphPhotographer program = new GraphPhotographer();
    private final Model model = new Model();
    private final int run;
    private final int mood;
    private int calls;

    private RandomRunsTest(Checks checks, int run) {
        this.checks = checks;
        this.run = run;
        this.random = new Random(run);
        this.mood = run % 6;
    }

    public static void main(String[] args) {
        Checks checks = new Checks("RandomRunsTest");
        for (int run = 1; run <= RUNS; run++) {
            new RandomRunsTest(checks, run).go();
        }
        checks.end();
    }

    private void go() {
        if (mood != 5) prepare();
        // the document leaves free what calls behind the 512th answer
        for (int step = 0; step < 4 * CALLS && calls + 2 * MOST_OF_A_STEP <= CALLS; step++) {
            step(calls);
            if (chance(5)) lookBack();
        }
        lookBack();
    }

    private void lookBack() {
        due("digest()", program.digest(), model.digest());
        due("seen()", program.seen(), model.seen);
        due("finding()", program.finding(), model.finding());
    }

    /** CLASSES without which little would go. */
    private void prepare() {
        due("face()", program.face(), model.face());
        due("face()", program.face(), model.face());
        for (int bits = 0; bits < 4; bits++) {
            int k = program.kind(bits);
            due("kind", k, model.kind(bits));
            int components = random.nextInt(7);
            for (int i = 0; i < components; i++) {
                int c = chance(2) ? random.nextInt(8) : pick(8, 8, 20, 21, 22, 14, k);
                due("component", program.component(k, c), model.component(k, c));
            }
            due("close", program.close(k), model.close(k));
        }
        for (int c : new int[] {8, 4, 7, 20, 22, 0, 6, 26, 14, 22 + random.nextInt(4)}) {
            due("rowOf", program.rowOf(c), model.rowOf(c));
        }
    }

    private boolean chance(int of) {
        return random.nextInt(of) == 0;
    }

    private int pick(int... of) {
        return of[random.nextInt(of.length)];
    }

    private int wild() {
        return pick(-1, -2, 0, 7, 16, 17, 300, 1000, Integer.MAX_VALUE, Integer.MIN_VALUE);
    }

    private int aClass() {
        return chance(25) ? wild() : chance(3) ? random.nextInt(20) : 20 + random.nextInt(1 + Math.min(40, model.count(0)));
    }

    private int aRow() {
        for (int tries = 0; tries < 20; tries++) {
            int c = aClass();
            if (model.about(c, 0) == 5) return c;
        }
        return aClass();
    }

    private int aKind() {
        for (int tries = 0; tries < 20; tries++) {
            int c = aClass();
            if (model.about(c, 0) == 4) return c;
        }
        return aClass();
    }

    private int aThing() {
        if (chance(30)) return wild();
        if (chance(20)) return -1;
        for (int tries = 0; tries < 8; tries++) {
            int x = random.nextInt(1 + model.things.size());
            if (x < model.things.size() && !model.things.get(x).gone) return x;
        }
        return random.nextInt(1 + model.things.size());
    }

    private int aPlace(int x) {
        if (chance(25)) return wild();
        int length = x >= 0 && x < model.things.size() ? model.things.get(x).values.size() : 0;
        return random.nextInt(length + (chance(8) ? 2 : 1));
    }

    /** A THING that may stand at a place, if one is soon found. */
    private int aFit(int x, int i) {
        if (chance(6)) return aThing();
        for (int tries = 0; tries < 12; tries++) {
            int y = aThing();
            if (y < 0 || y >= model.things.size() || x < 0 || x >= model.things.size()) continue;
            Model.Thing t = model.things.get(x);
            if (i < 0 || i >= t.values.size()) return y;
            int place = t.placeSort(i).number;
            int c = model.things.get(y).sort.number;
            if (model.is(c, place) == 1 || place < 8 && c >= 10 && c <= 17) return y;
        }
        return aThing();
    }

    private long aWord() {
        return chance(3) ? random.nextLong() >> random.nextInt(64) : WORDS[random.nextInt(WORDS.length)];
    }

    private int aShot() {
        return chance(25) ? wild() : random.nextInt(1 + model.shots.size());
    }

    private int aRoot() {
        return chance(25) ? wild() : random.nextInt(6);
    }

    private int aSize(int most) {
        return chance(20) ? wild() : random.nextInt(most + 2);
    }

    /** Of one call each. */
    private void due(String call, long got, long want) {
        calls++;
        checks.due("run " + run + ", call " + calls + ": " + call, got, want);
    }

    private void step(int call) {
        int sort = random.nextInt(100);
        if (mood == 4 && call < 100 && sort >= 60 && sort < 80) sort -= 40;
        if (sort < 6) classCall();
        else if (sort < 24) makingCall();
        else if (sort < 55) writingCall();
        else if (sort < 68) readingCall();
        else if (sort < 76) rootCall();
        else if (sort < 92) pictureCall();
        else tellingCall();
    }

    private void classCall() {
        int c = aClass();
        int d = aClass();
        int k = aKind();
        int what = chance(20) ? wild() : random.nextInt(12) - 1;
        switch (random.nextInt(7)) {
            case 0: if (mood == 5 || chance(6)) due("face()", program.face(), model.face()); break;
            case 1: int bits = chance(9) ? wild() : random.nextInt(1 << Math.min(8, model.faces.size()));
                if (mood == 5 || chance(3)) due("kind(" + bits + ")", program.kind(bits), model.kind(bits));
                break;
            case 2: due("component(" + k + ", " + c + ")", program.component(k, c), model.component(k, c)); break;
            case 3: due("close(" + k + ")", program.close(k), model.close(k)); break;
            case 4: if (mood == 5 || chance(2)) due("rowOf(" + c + ")", program.rowOf(c), model.rowOf(c)); break;
            case 5: due("about(" + c + ", " + what + ")", program.about(c, what), model.about(c, what)); break;
            default: due("is(" + c + ", " + d + ")", program.is(c, d), model.is(c, d)); break;
        }
    }

    private void makingCall() {
        int x = aThing();
        int c = aRow();
        int k = aKind();
        switch (random.nextInt(9)) {
            case 0:
            case 1: int n = aSize(chance(3) ? 16 : 4); due("make(" + c + ", " + n + ")", program.make(c, n), model.make(c, n)); break;
            case 2: int a = aSize(mood == 3 ? 8 : 2);
                int b = aSize(mood == 3 ? 8 : 2);
                due("multi(" + c + ", " + a + ", " + b + ")", program.multi(c, a, b), model.multi(c, a, b));
                break;
            case 3:
            case 4:
            case 5: due("record(" + k + ")", program.record(k), model.record(k)); break;
            case 6: int p = chance(15) ? wild() : random.nextInt(8);
                long w = aWord();
                due("box(" + p + ", " + w + ")", program.box(p, w), model.box(p, w));
                break;
            case 7: due("shallow(" + x + ")", program.shallow(x), model.shallow(x)); break;
            default:
                if (mood >= 2 || chance(4)) due("deep(" + x + ")", program.deep(x), model.deep(x));
                break;
        }
    }

    private void writingCall() {
        int x = aThing();
        int y = aThing();
        int i = aPlace(x);
        switch (random.nextInt(10)) {
            case 0:
                if (chance(3)) due("seal(" + x + ")", program.seal(x), model.seal(x));
                break;
            case 1:
            case 2: int k = chance(20) ? wild() : random.nextInt(8);
                long w = aWord();
                due("put(" + x + ", " + i + ", " + k + ", " + w + ")", program.put(x, i, k, w), model.put(x, i, k, w));
                break;
            case 3: int j = aPlace(y);
                int n = chance(20) ? wild() : random.nextInt(4);
                due("copy(" + x + ", " + i + ", " + y + ", " + j + ", " + n + ")",
                        program.copy(x, i, y, j, n), model.copy(x, i, y, j, n));
                break;
            default: int z = aFit(x, i);
                due("set(" + x + ", " + i + ", " + z + ")", program.set(x, i, z), model.set(x, i, z));
                break;
        }
    }

    private void readingCall() {
        int x = aThing();
        int y = aThing();
        int i = aPlace(x);
        switch (random.nextInt(8)) {
            case 0: due("get(" + x + ", " + i + ")", program.get(x, i), model.get(x, i)); break;
            case 1: due("length(" + x + ")", program.length(x), model.length(x)); break;
            case 2: due("classOf(" + x + ")", program.classOf(x), model.classOf(x)); break;
            case 3: due("sealed(" + x + ")", program.sealed(x), model.sealed(x)); break;
            case 4: due("like(" + x + ", " + y + ")", program.like(x, y), model.like(x, y)); break;
            case 5: due("hash(" + x + ")", program.hash(x), model.hash(x)); break;
            case 6: due("least(" + x + ")", program.least(x), model.least(x)); break;
            default: due("groups()", program.groups(), model.groups()); break;
        }
    }

    private void rootCall() {
        int r = aRoot();
        int x = aThing();
        switch (random.nextInt(6)) {
            case 0:
            case 1:
            case 2: due("name(" + r + ", " + x + ")", program.name(r, x), model.name(r, x)); break;
            case 3: due("root(" + r + ")", program.root(r), model.root(r)); break;
            case 4: int way = chance(9) ? random.nextInt() : chance(2) ? 1 + random.nextInt(3) + 16 * random.nextInt(3)
                        : 0x11111111 + random.nextInt(2) * 0x100 + random.nextInt(2) * 0x10000000;
                due("path(" + r + ", " + way + ")", program.path(r, way), model.path(r, way));
                break;
            default:
                if (chance(3)) due("sweep()", program.sweep(), model.sweep());
                break;
        }
    }

    private void pictureCall() {
        int p = aShot();
        int q = aShot();
        int b = aShot();
        boolean spare = model.shots.size() < 9 || chance(4);
        switch (random.nextInt(8)) {
            case 0:
                if (spare && chance(2)) due("photo()", program.photo(), model.photo());
                break;
            case 1: int w = chance(20) ? wild() : random.nextInt(9);
                due("picture(" + p + ", " + w + ")", program.picture(p, w), model.picture(p, w));
                break;
            case 2: int x = aThing();
                int what = chance(20) ? wild() : random.nextInt(8);
                due("entry(" + p + ", " + x + ", " + what + ")", program.entry(p, x, what), model.entry(p, x, what));
                break;
            case 3: due("differ(" + p + ", " + q + ")", program.differ(p, q), model.differ(p, q)); break;
            case 4:
                if (spare) due("lay(" + p + ")", program.lay(p), model.lay(p));
                due("misfit()", program.misfit(), model.misfit());
                break;
            case 5:
                if (spare) due("merge(" + b + ", " + p + ", " + q + ")", program.merge(b, p, q), model.merge(b, p, q));
                conflicts();
                break;
            case 6:
                if (chance(3)) due("restore(" + p + ")", program.restore(p), model.restore(p));
                break;
            default: edits(); break;
        }
    }

    private void edits() {
        int k = chance(9) ? wild() : random.nextInt(1 + model.count(4));
        for (int what = -1; what < 6; what++) {
            due("edit(" + k + ", " + what + ")", program.edit(k, what), model.edit(k, what));
        }
    }

    private void conflicts() {
        due("conflict(-1, 0)", program.conflict(-1, 0), model.conflict(-1, 0));
        int k = chance(9) ? wild() : random.nextInt(1 + model.conflicts.size());
        for (int what = -1; what < 4; what++) {
            due("conflict(" + k + ", " + what + ")", program.conflict(k, what), model.conflict(k, what));
        }
    }

    private void tellingCall() {
        int f = random.nextInt(12) - 1;
        due("findings(" + f + ")", program.findings(f), model.findings(f));
        due("count(" + f + ")", program.count(f), model.count(f));
    }
}
