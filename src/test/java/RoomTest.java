import java.lang.management.ManagementFactory;

/**
 * What one object with all its calls takes of the room of a run, which is 600,000 objects and
 * arrays and 7.3 million fields and elements: at most a hundredth, since a run makes many objects.
 */
public final class RoomTest {
    private static final int CALLS = 512;
    private static final long ROOM_IN_BYTES = 600_000L * 16 + 7_300_000L * 4;
    private static final com.sun.management.ThreadMXBean THREADS =
        (com.sun.management.ThreadMXBean) ManagementFactory.getThreadMXBean();

    public static void main(String[] args) {
        Due due = new Due();
        for (String name : Calls.NAMES) {
            // The first time loads classes, which is no room of the calls.
            takenBy(name);
            long taken = takenBy(name);
            due.holds(CALLS + " calls, most of them " + name + ", took " + taken + " bytes",
                taken >= 0 && taken < ROOM_IN_BYTES / 100);
        }
        due.close("RoomTest");
    }

    private static long takenBy(String name) {
        long before = THREADS.getCurrentThreadAllocatedBytes();
        HeadBudgets x = new HeadBudgets();
        x.make(0, 1);
        x.allot(0, 100000);
        x.commit(0, 50000);
        for (int call = 3; call < CALLS; call++) {
            Calls.answer(x, name, 0, 1, 1);
        }
        return THREADS.getCurrentThreadAllocatedBytes() - before;
    }
}
