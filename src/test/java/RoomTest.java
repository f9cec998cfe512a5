import com.sun.management.ThreadMXBean;
import java.lang.management.ManagementFactory;

/** All calls of a run share one room: what they make is counted here in the machine's bytes. */
public final class RoomTest {
    // 7.3 million elements of at least a byte each: no run may come near it.
    private static final long ROOM = 7_300_000;

    private static final ThreadMXBean THREADS = (ThreadMXBean) ManagementFactory.getThreadMXBean();

    public static void main(String[] args) {
        long start = made();
        DeltaSync x = null;
        for (int i = 0; i < 512; i++) {
            x = new DeltaSync();
        }
        dueSmall("512 new objects", made() - start);
        start = made();
        dearestRun(x);
        dueSmall("the dearest run", made() - start);
        Due.end("RoomTest");
    }

    private static long made() {
        return THREADS.getThreadAllocatedBytes(Thread.currentThread().getId());
    }

    private static void dueSmall(String what, long bytes) {
        System.out.println(what + ": " + bytes + " bytes");
        Due.due(what + " fit in", bytes < ROOM / 2, true);
    }

    // 512 calls: two files of 600 bytes, and as often as there is time what makes the most.
    private static void dearestRun(DeltaSync x) {
        for (int i = 0; i < 150; i++) {
            x.feed(0, 0x01020304 * i);
            x.feed(1, 0x04030201 * i);
        }
        x.shape(1, 16);
        for (int i = 0; i < 42; i++) {
            x.sign();
            x.delta();
            x.apply();
            x.md5(0, 0);
            x.same();
        }
    }
}
