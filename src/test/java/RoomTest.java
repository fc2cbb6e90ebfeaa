import com.sun.management.ThreadMXBean;
import java.lang.management.ManagementFactory;

/** What runs of 512 calls make in all: the room is 7.3 million fields and elements for a whole run. */
public final class RoomTest {
    /** Of one object: an element takes a byte at least, so that so many bytes surely fit. */
    private static final long ROOM_OF_BYTES = 7_300_000L;
    /** Of many objects: most of what they are made of are ints. */
    private static final long ROOM_OF_INTS = 4 * ROOM_OF_BYTES;
    private static final Checks CHECKS = new Checks("RoomTest");
    private static final ThreadMXBean THREADS = (ThreadMXBean) ManagementFactory.getThreadMXBean();

    public static void main(String[] args) {
        warmUp();
        runsOfObjects();
        callsThatFail();
        callsThatFailAmidNewThings();
        dearCalls();
        CHECKS.end();
    }

    private static long made() {
        return THREADS.getCurrentThreadAllocatedBytes();
    }

    private static void fits(String run, long before, long room) {
        long now = made();
        CHECKS.due(run + " made " + (now - before) + " bytes: it fits", now - before < room ? 1 : 0, 1);
    }

    /** The machine's own classes are loaded by then. */
    private static void warmUp() {
        crowd().photo();
        fits("", made(), ROOM_OF_BYTES);
    }

    /** 288 THINGS with 16 ELEMENTS each, all of which ROOT 0 reaches, in some 50 calls. */
    private static GraphPhotographer crowd() {
        GraphPhotographer g = new GraphPhotographer();
        int anys = g.rowOf(8);
        int longs = g.rowOf(5);
        g.make(anys, 16);
        for (int i = 0; i < 15; i++) g.set(0, i, g.make(longs, 16));
        // each time a copy of all, at last of the last 32, hangs behind
        for (int end : new int[] {0, 16, 48, 112, 240}) g.set(end, 15, g.deep(end == 240 ? 224 : 0));
        g.name(0, 0);
        CHECKS.due("THINGS", g.count(1), 288);
        return g;
    }

    /** Should each call of a run be the constructor, or each third one. */
    private static void runsOfObjects() {
        long before = made();
        for (int i = 0; i < 512; i++) new GraphPhotographer().count(0);
        fits("512 objects", before, ROOM_OF_INTS);
        before = made();
        for (int i = 0; i < 170; i++) {
            GraphPhotographer g = new GraphPhotographer();
            g.photo();
            g.differ(0, 0);
        }
        fits("170 objects with PICTURES and EDITS", before, ROOM_OF_INTS);
    }

    /** PICTURES 0, 1, 2 of the crowd, so that merge(0, 1, 2) has CONFLICTS and lay(0) meets MISFIT. */
    private static GraphPhotographer threePictures() {
        GraphPhotographer g = crowd();
        g.photo();
        for (int v = 1; v < 3; v++) {
            g.put(287, 3, 5, v);
            g.photo();
        }
        g.differ(1, 2);
        return g;
    }

    private static void callsThatFail() {
        GraphPhotographer g = threePictures();
        long before = made();
        for (int i = 0; i < 200; i++) {
            CHECKS.due("CONFLICTS", g.merge(0, 1, 2), -105);
            CHECKS.due("MISFIT", g.lay(0), -18);
        }
        fits("merge() and lay() that fail", before, ROOM_OF_BYTES);
    }

    private static void callsThatFailAmidNewThings() {
        GraphPhotographer g = threePictures();
        int row = g.rowOf(5);
        long before = made();
        for (int i = 0; i < 100; i++) {
            g.make(row, 16);
            CHECKS.due("CONFLICTS", g.merge(0, 1, 2), -105);
            CHECKS.due("MISFIT", g.lay(0), -18);
        }
        fits("merge() and lay() that fail amid new THINGS", before, ROOM_OF_BYTES);
    }

    private static void dearCalls() {
        long before = made();
        GraphPhotographer g = crowd();
        for (int p = 0; p < 12; p++) g.photo();
        for (int i = 0; i < 49; i++) {
            g.groups();
            g.like(0, i);
            g.least(i);
            g.hash(0);
            g.differ(i % 12, 0);
            g.restore(0);
            g.deep(0);
            g.path(0, i);
            g.digest();
        }
        g.name(0, -1);
        g.sweep();
        fits("dear calls", before, ROOM_OF_BYTES);
    }
}
