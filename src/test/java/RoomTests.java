import com.sun.management.ThreadMXBean;
import java.lang.management.ManagementFactory;

/** All calls of one run live in one room, so none of them makes an object. */
public final class RoomTests {
    private static final ThreadMXBean MEASURE = (ThreadMXBean) ManagementFactory.getThreadMXBean();
    /** Far below one row of 24 numbers for each call. */
    private static final long MOST_FOR_ALL_CALLS = 4096;
    /** 7.3 million elements of four bytes, with room for a hundred objects at once. */
    private static final long MOST_FOR_ONE_OBJECT = 7_300_000L * 4 / 100;
    private static final int TIMES = 20;

    private static int sum = 0;

    public static void main(String[] args) {
        if (!MEASURE.isThreadAllocatedMemorySupported()) {
            System.out.println("this machine cannot tell what a call makes");
            return;
        }
        // What the machine itself makes when it runs something for the first time is not meant.
        long forCalls = Long.MAX_VALUE;
        long forObject = Long.MAX_VALUE;
        for (int i = 0; i < TIMES; i++) {
            long before = made();
            KeptPaths x = new KeptPaths();
            long between = made();
            allKindsOfCalls(x);
            long behind = made();
            forObject = Math.min(forObject, between - before);
            forCalls = Math.min(forCalls, behind - between);
        }
        look("bytes made by all calls", forCalls, MOST_FOR_ALL_CALLS);
        look("bytes made by the constructor", forObject, MOST_FOR_ONE_OBJECT);
        Runs.finish();
    }

    private static long made() {
        return MEASURE.getThreadAllocatedBytes(Thread.currentThread().getId());
    }

    private static void look(String what, long got, long most) {
        if (got < 0 || got > most) {
            Runs.fault(what + ": " + got + ", at most " + most + " are due");
        }
    }

    private static void allKindsOfCalls(KeptPaths x) {
        for (int v = 0; v < 24; v++) {
            sum += x.node();
        }
        for (int k = 0; k < 3; k++) {
            sum += x.source(k, k * 8);
        }
        for (int i = 0; i < 24; i++) {
            changes(x, i);
            questions(x, i);
        }
    }

    private static void changes(KeptPaths x, int i) {
        int next = (i + 1) % 24;
        sum += x.put(i, next, 1) + x.put(next, i, -2) + x.put(i, next, 2);
        sum += x.begin() + x.put(next, i, -1) + x.take(next, i) + x.put(next, i, 7) + x.end();
        if (i % 3 == 0) {
            sum += x.undo();
        }
    }

    private static void questions(KeptPaths x, int i) {
        sum += x.distance(0, i) + x.hops(1, i) + x.parent(2, i) + x.way(0, i, -1) + x.way(0, i, 1);
        sum += x.affected(0) + x.tight(1) + x.ring(-1) + x.ring(1) + x.arc(0, i) + x.count(i % 6);
    }
}
