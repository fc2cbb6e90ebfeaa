import com.sun.management.ThreadMXBean;
import java.lang.management.ManagementFactory;

/** What runs make in all: the room is 7.3 million fields and elements, so some 58 million bytes, for a whole run. */
public final class RoomTest {
    private static final long ROOM = 58_000_000L;
    private static final Checks CHECKS = new Checks("RoomTest");
    private static final ThreadMXBean THREADS = (ThreadMXBean) ManagementFactory.getThreadMXBean();

    public static void main(String[] args) {
        warmUp();
        runsOfObjects();
        failingCallsLeaveNothing();
        dearCalls();
        CHECKS.end();
    }

    private static long made() {
        return THREADS.getCurrentThreadAllocatedBytes();
    }

    /** The machine's own classes are loaded by then. */
    private static void warmUp() {
        crowd().photo();
        made();
    }

    /** 300 THINGS with 4,800 ELEMENTS but a few, all of which ROOT 0 reaches. */
    private static GraphPhotographer crowd() {
        GraphPhotographer g = new GraphPhotographer();
        int anys = g.rowOf(8);
        int longs = g.rowOf(5);
        for (int i = 0; i < 20; i++) g.make(anys, 16);
        for (int i = 1; i < 300; i++) g.set((i - 1) / 16, (i - 1) % 16, i < 20 ? i : g.make(longs, 16));
        g.name(0, 0);
        return g;
    }

    /** Should each call of a run be the constructor, or each third one. */
    private static void runsOfObjects() {
        long before = made();
        for (int i = 0; i < 512; i++) new GraphPhotographer().count(0);
        CHECKS.due("512 objects fit", made() - before < ROOM / 2 ? 1 : 0, 1);
        before = made();
        for (int i = 0; i < 170; i++) {
            GraphPhotographer g = new GraphPhotographer();
            g.photo();
            g.differ(0, 0);
        }
        CHECKS.due("170 objects with PICTURES and EDITS fit", made() - before < ROOM / 2 ? 1 : 0, 1);
    }

    private static void failingCallsLeaveNothing() {
        GraphPhotographer g = crowd();
        g.photo();
        for (int v = 1; v < 3; v++) {
            g.put(299, 3, 5, v);
            g.name(1, 5 + v);
            g.photo();
        }
        g.differ(1, 2);
        g.merge(0, 1, 2);
        g.lay(0);
        long before = made();
        for (int i = 0; i < 500; i++) {
            CHECKS.due("CONFLICTS", g.merge(0, 1, 2), -105);
            CHECKS.due("MISFIT", g.lay(0), -18);
        }
        CHECKS.due("merge() and lay() that fail", made() - before < 200_000 ? 1 : 0, 1);
    }

    private static void dearCalls() {
        long before = made();
        GraphPhotographer g = crowd();
        for (int p = 0; p < 12; p++) g.photo();
        for (int i = 0; i < 200; i++) {
            g.groups();
            g.like(0, i);
            g.least(i);
            g.hash(0);
            g.differ(i % 12, 0);
            g.restore(0);
            g.deep(0);
            g.path(0, i);
            g.digest();
        }
        g.name(0, -1);
        g.sweep();
        CHECKS.due("all in all", made() - before < 2_500_000 ? 1 : 0, 1);
    }
}
