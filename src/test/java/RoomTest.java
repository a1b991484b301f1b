import com.sun.management.ThreadMXBean;
import java.lang.management.ManagementFactory;

/**
 * All calls of a run live in one room, so no call may keep making rows: 512 calls on one object,
 * the dearest ones among them, make little more than the constructor does.
 */
public final class RoomTest {
    /** The room has place for 7.3 million elements; this is about a thousandth of it. */
    private static final long MOST_BYTES = 64_000;

    private static final ThreadMXBean THREADS =
            (ThreadMXBean) ManagementFactory.getThreadMXBean();

    public static void main(String[] args) {
        useOnce();
        long before = allocated();
        useOnce();
        long made = allocated() - before;
        Check.same("bytes made by a run of 512 calls are few (" + made + ")",
                made < MOST_BYTES, true);
        Check.end();
    }

    private static long allocated() {
        return THREADS.getThreadAllocatedBytes(Thread.currentThread().getId());
    }

    /** Four variables that MATCH give one of the densest graphs, with some 1,700 links. */
    private static void useOnce() {
        QualitativeSimulator s = new QualitativeSimulator();
        s.addVariable(3, 2);
        s.addVariable(2, 1);
        s.addVariable(3, 2);
        s.addVariable(2, 1);
        s.addConstraint(5, 2, 3, 0);
        s.addConstraint(5, 1, 2, 0);
        s.addConstraint(5, 1, 0, 0);
        for (int call = 7; call + 6 < 512; call += 6) {
            s.give(0, 1, 0);
            s.explore();
            s.hasCycle();
            s.ways(100);
            s.digest();
            s.soonest(3, 2);
        }
    }
}
