import java.util.Arrays;
import java.util.List;
import java.util.Random;

/** Runs of calls by chance (the same at each time) up to the 512th of an object, on the program and on the Model. */
public final class RandomRunsTest {
    private static final int RUNS = 1800, MOST_STEPS = 20 * Pair.MOST_CALLS;
    /** How a run begins, and what it likes. */
    private static final int EVEN = 0, WIDE = 1, BARE = 2, CROWD = 3, ALBUM = 4, MOODS = 5;
    /** By moods, of a hundred: calls of CLASSES, that make THINGS, write, read, of LIKENESS, ROOTS, PICTURES, what is told. */
    private static final int[][] SHARES = {
        {6, 18, 29, 6, 8, 8, 17, 8}, {4, 40, 22, 4, 6, 6, 12, 6}, {40, 15, 15, 4, 4, 6, 10, 6}, {2, 4, 44, 2, 4, 8, 30, 6},
        {4, 14, 24, 2, 4, 14, 32, 6}};
    private static final int ROWS_OF_ANYS = 33;
    private static final long[] WORDS = {
        0, 1, 2, -1, 5, 127, 128, -128, -129, 255, 256, 300, 32767, 32768, 65408, 65535, 65536, 16777217, 33554433,
        2147483647L, -2147483648L, 2147483648L, 4294967295L, 9007199254740993L, Long.MAX_VALUE, Long.MIN_VALUE,
        1069547520L, 0x7f800000L, 0x7fc00000L, 0x7f800001L, 0xff800000L, 0xffc00000L, 0x80000000L,
        0x3ff8000000000000L, 0x7ff0000000000000L, 0x7ff8000000000000L, 0x7ff0000000000001L, 0xfff0000000000000L,
    };

    private final Tally tally;
    private final String title;
    private final Pair pair;
    private final Model model;
    private final Random random;
    private final int run;
    private final int mood;
    /** One call is kept for the end. */
    private int limit = Pair.MOST_CALLS - 1;

    private RandomRunsTest(Checks checks, Tally tally, int run) {
        this.tally = tally;
        this.run = run;
        title = "run " + run;
        pair = new Pair(checks, tally, title);
        model = pair.model;
        random = new Random(run);
        mood = run % MOODS;
    }

    public static void main(String[] args) {
        Checks checks = new Checks("RandomRunsTest");
        Tally tally = new Tally(checks);
        for (int run = 1; run <= RUNS; run++) {
            RandomRunsTest test = new RandomRunsTest(checks, tally, run);
            test.go();
            tally.endRun(test.title);
            checks.due(test.title + ": calls", test.pair.calls(), Pair.MOST_CALLS);
        }
        tally.end();
        checks.end();
    }

    private void go() {
        if (mood == CROWD) gather();
        else if (mood != BARE) prepare();
        // so that such a run comes to 300 THINGS before it ends
        for (int i = 0; mood == WIDE && i < 12; i++) ask("multi", ROWS_OF_ANYS, 8, i % 9);
        if (mood == EVEN || mood == ALBUM) sow();
        for (int group = 0; group < Tally.groupCount(); group++) goTo(pair.calls() + 1, group);
        for (int step = 0; step < MOST_STEPS && pair.calls() < limit; step++) {
            step();
            if (chance(9)) lookBack();
        }
        limit = Pair.MOST_CALLS;
        goTo(limit, run / MOODS % Tally.groupCount());
    }

    /** By calls of one group, and further where these ask several at once. */
    private void goTo(int calls, int group) {
        for (int step = 0; step < MOST_STEPS && pair.calls() < calls; step++) callOf(group);
    }

    private long ask(String name, long... arguments) {
        return pair.calls() < limit ? pair.ask(name, arguments) : 0;
    }

    private void lookBack() {
        ask("digest");
        ask("seen");
        ask("finding");
    }

    /** CLASSES without which little would go; ROWS_OF_ANYS is one of them. */
    private void prepare() {
        ask("face");
        ask("face");
        for (int bits = 0; bits < 4; bits++) {
            int k = (int) ask("kind", bits);
            int components = random.nextInt(7);
            for (int i = 0; i < components; i++) {
                ask("component", k, chance(2) ? random.nextInt(8) : pick(8, 8, 20, 21, 22, 14, k));
            }
            ask("close", k);
        }
        for (int c : new int[] {8, 4, 7, 20, 22, 0, 6, 26, 14, 22 + random.nextInt(4)}) ask("rowOf", c);
    }

    /** 64 THINGS with 16 ELEMENTS each, most of them WORDS above 0; ROOT 0 reaches all. */
    private void gather() {
        int anys = (int) ask("rowOf", 8);
        int longs = (int) ask("rowOf", 5);
        ask("make", anys, 16);
        ask("make", longs, 16);
        for (int i = 0; i < 16; i++) ask("put", 1, i, 5, 1 + i);
        ask("set", 0, 0, 1);
        for (int i = 1; i < 15; i++) ask("set", 0, i, ask("shallow", 1));
        for (int end = 0; end < 48; end = 2 * end + 16) ask("set", end, 15, ask("deep", 0));
        ask("photo");
        ask("name", 0, 0);
        ask("photo");
    }

    /** Some THINGS that have one another, and ROOTS that reach most of them. */
    private void sow() {
        for (int i = 0; i < 14; i++) makingCall();
        for (int r = 0; r < 4; r++) ask("name", r, aThing());
        for (int i = 0; i < 40; i++) {
            int x = chance(3) ? aThing() : aNamed();
            int place = aPlace(x);
            ask("set", x, place, aFit(x, place));
        }
    }

    private boolean chance(int of) {
        return random.nextInt(of) == 0;
    }

    private int pick(int... of) {
        return of[random.nextInt(of.length)];
    }

    private int wild() {
        return pick(-1, -2, 0, 7, 16, 17, 300, 1000, Integer.MAX_VALUE, Integer.MIN_VALUE);
    }

    private int aClass() {
        return chance(25) ? wild() : chance(3) ? random.nextInt(20) : 20 + random.nextInt(1 + Math.min(40, model.count(0)));
    }

    private int aClassOf(int sort) {
        for (int tries = 0; tries < 20; tries++) {
            int c = aClass();
            if (model.about(c, 0) == sort) return c;
        }
        return aClass();
    }

    private int aRow() {
        return aClassOf(5);
    }

    private int aKind() {
        return aClassOf(4);
    }

    private int aThing() {
        if (chance(30)) return wild();
        if (chance(20)) return -1;
        for (int tries = 0; tries < 8; tries++) {
            int x = random.nextInt(1 + model.things.size());
            if (x < model.things.size() && !model.things.get(x).gone) return x;
        }
        return random.nextInt(1 + model.things.size());
    }

    /** One that ROOTS reach, so that PICTURES differ by what is written to it. */
    private int aNamed() {
        List<Model.Thing> all = Model.reached(Arrays.asList(model.roots));
        return all.isEmpty() ? aThing() : all.get(random.nextInt(all.size())).number;
    }

    private int aPlace(int x) {
        if (chance(25)) return wild();
        int length = x >= 0 && x < model.things.size() ? model.things.get(x).values.size() : 0;
        return random.nextInt(length + (chance(8) ? 2 : 1));
    }

    /** A THING that may stand at a place, if one is soon found. */
    private int aFit(int x, int i) {
        if (chance(6)) return aThing();
        for (int tries = 0; tries < 12; tries++) {
            int y = aThing();
            if (y < 0 || y >= model.things.size() || x < 0 || x >= model.things.size()) continue;
            Model.Thing t = model.things.get(x);
            if (i < 0 || i >= t.values.size()) return y;
            int place = t.placeSort(i).number;
            int c = model.things.get(y).sort.number;
            if (model.is(c, place) == 1 || place < 8 && c >= 10 && c <= 17) return y;
        }
        return aThing();
    }

    private long aWord() {
        return chance(3) ? random.nextLong() >> random.nextInt(64) : WORDS[random.nextInt(WORDS.length)];
    }

    private int aShot() {
        return chance(25) ? wild() : random.nextInt(Math.max(1, model.shots.size()));
    }

    private int fullestShot() {
        int fullest = 0;
        for (int p = 1; p < model.shots.size(); p++) {
            if (model.shots.get(p).entries.size() > model.shots.get(fullest).entries.size()) fullest = p;
        }
        return fullest;
    }

    private int aRoot() {
        return chance(25) ? wild() : random.nextInt(6);
    }

    private int aSize(int most) {
        return chance(20) ? wild() : random.nextInt(most + 2);
    }

    private void step() {
        int sort = 0;
        for (int at = random.nextInt(100); sort < 7 && at >= SHARES[mood][sort]; sort++) at -= SHARES[mood][sort];
        if (sort == 1) makingCall();
        else if (sort == 2) writingCall();
        else if (sort == 3) readingCall();
        else callOf(Math.max(0, sort - 2));
    }

    /** In the order in which the document tells the groups. */
    private void callOf(int group) {
        switch (group) {
            case 0: classCall(); break;
            case 1: readingCall(); break;
            case 2: likenessCall(); break;
            case 3: rootCall(); break;
            case 4: pictureCall(); break;
            default: tellingCall(); break;
        }
    }

    private void classCall() {
        switch (random.nextInt(7)) {
            case 0: if (mood == BARE || chance(6)) ask("face"); break;
            case 1: int bits = chance(9) ? wild() : random.nextInt(1 << Math.min(8, model.faces.size()));
                if (mood == BARE || chance(3)) ask("kind", bits);
                break;
            case 2: int k = aKind();
                for (int i = 0; i < 3; i++) ask("component", k, aClass());
                break;
            case 3: ask("close", aKind()); break;
            case 4: if (mood == BARE || chance(2)) ask("rowOf", chance(3) ? aRow() : aClass()); break;
            case 5: ask("about", aClass(), chance(20) ? wild() : random.nextInt(12) - 1); break;
            default: ask("is", aClass(), aClass()); break;
        }
    }

    private void makingCall() {
        int plain = chance(15) ? wild() : random.nextInt(8);
        if (mood == WIDE && chance(3)) {
            ask("multi", ROWS_OF_ANYS, aSize(8), aSize(8));
            return;
        }
        switch (random.nextInt(9)) {
            case 0:
            case 1: ask("make", aRow(), aSize(chance(3) ? 16 : 4)); break;
            case 2: ask("multi", aRow(), aSize(2), aSize(2)); break;
            case 3:
            case 4:
            case 5: ask("record", aKind()); break;
            case 6: ask("box", plain, aWord()); break;
            case 7: ask("shallow", aThing()); break;
            default: if (mood == WIDE || chance(3)) ask("deep", aThing()); break;
        }
    }

    private void writingCall() {
        int x = chance(2) ? aThing() : aNamed();
        int y = aThing();
        int i = aPlace(x);
        switch (random.nextInt(10)) {
            case 0: if (chance(2)) ask("seal", x); break;
            case 1:
            case 2: ask("put", x, i, chance(20) ? wild() : random.nextInt(8), aWord()); break;
            case 3: ask("copy", x, i, y, aPlace(y), chance(20) ? wild() : random.nextInt(4)); break;
            default:
                if (mood == CROWD && !chance(3)) ask("copy", x, pick(0, 1), y, pick(0, 1, 2), 14);
                else ask("set", x, i, aFit(x, i));
                break;
        }
    }

    private void readingCall() {
        int x = aThing();
        switch (random.nextInt(4)) {
            case 0: ask("get", x, aPlace(x));
                ask("seen");
                break;
            case 1: ask("length", x); break;
            case 2: ask("classOf", x); break;
            default: ask("sealed", x); break;
        }
    }

    private void likenessCall() {
        switch (random.nextInt(4)) {
            case 0: ask("like", aThing(), aThing()); break;
            case 1: ask("hash", aThing());
                ask("seen");
                break;
            case 2: ask("least", aThing()); break;
            default: ask("groups"); break;
        }
    }

    /** One that goes for some steps, and then by chance. */
    private int aWay(int r) {
        int steps = random.nextInt(9);
        int way = steps < 8 && chance(2) ? random.nextInt(16) << 4 * steps : 0;
        Model.Thing t = r >= 0 && r < 6 ? model.roots[r] : null;
        for (int step = 0; step < steps && t != null && !t.values.isEmpty(); step++) {
            int i = random.nextInt(Math.min(15, t.values.size()));
            way |= i + 1 << 4 * step;
            t = t.values.get(i) instanceof Model.Thing ? (Model.Thing) t.values.get(i) : null;
        }
        return way;
    }

    private void rootCall() {
        int r = aRoot();
        switch (random.nextInt(6)) {
            case 0:
            case 1:
            case 2: ask("name", mood == CROWD && r == 0 ? 1 : r, chance(3) ? aThing() : aNamed()); break;
            case 3: ask("root", r); break;
            case 4: ask("path", r, chance(9) ? random.nextInt() : aWay(r)); break;
            default: if (chance(3)) ask("sweep"); break;
        }
    }

    private void pictureCall() {
        // so that PICTURES are of much, too, and some are left to the end
        boolean spare = model.shots.size() < pair.calls() / 45 || mood == ALBUM || chance(12);
        switch (random.nextInt(8)) {
            case 0: if (spare) ask("photo"); break;
            case 1: ask("picture", aShot(), chance(20) ? wild() : random.nextInt(9)); break;
            case 2: entryCall(); break;
            case 3: ask("differ", aShot(), aShot()); break;
            case 4: layCall(spare && !(mood == CROWD && chance(2))); break;
            case 5: mergeCall(spare); break;
            case 6: if (chance(3)) ask("restore", chance(3) ? aShot() : fullestShot()); break;
            default: edits(); break;
        }
    }

    private void entryCall() {
        int p = aShot();
        int x = aThing();
        if (p >= 0 && p < model.shots.size() && !chance(4)) {
            Integer next = model.shots.get(p).entries.ceilingKey(x);
            if (next != null) x = next;
        }
        if (chance(20)) ask("entry", p, x, wild());
        // one behind the last value, too
        long values = ask("entry", p, x, 1);
        for (int what = pick(0, 2, 3); what < 4 + values; what++) {
            ask("entry", p, x, what);
            ask("seen");
        }
    }

    private void layCall(boolean spare) {
        boolean stuck = spare && ask("lay", aShot()) == -18;
        long which = ask("misfit");
        if (stuck) tally.note(which == model.count(4) ? "MISFIT behind all" : "MISFIT of an EDIT");
    }

    private void mergeCall(boolean spare) {
        if (spare && ask("merge", aShot(), aShot(), aShot()) == -105) {
            for (int[] conflict : model.conflicts) tally.note("CONFLICT " + conflict[0]);
            if (model.conflicts.size() > 60) tally.note("more than 60 CONFLICTS");
        }
        ask("conflict", -1, 0);
        int k = chance(9) ? wild() : random.nextInt(1 + model.conflicts.size());
        for (int what = -1; what < 4; what++) ask("conflict", k, what);
    }

    private void edits() {
        int k = chance(9) ? wild() : random.nextInt(1 + model.count(4));
        for (int what = -1; what < 6; what++) ask("edit", k, what);
    }

    private void tellingCall() {
        int f = random.nextInt(12) - 1;
        ask("findings", f);
        ask("count", f);
    }
}
