import com.sun.management.ThreadMXBean;
import java.lang.management.ManagementFactory;

/** What a run of 512 calls makes stays far under the room that all calls of a run share. */
public final class RoomTest {
    private static final int CALLS = 512;
    private static final long MOST_BYTES = 4L * 1_500_000;
    private static final ThreadMXBean THREADS = (ThreadMXBean) ManagementFactory.getThreadMXBean();

    // Kept, so that no compiler leaves the objects out.
    private static final LineChunks[] MADE = new LineChunks[CALLS];

    private static boolean wrong = false;

    public static void main(String[] args) {
        long start = THREADS.getCurrentThreadAllocatedBytes();
        for (int i = 0; i < CALLS; i++) {
            MADE[i] = new LineChunks();
        }
        start = told("new objects alone", start);
        LineChunks x = new LineChunks();
        for (int i = 0; i < CALLS; i++) {
            x.insert(0, i, 1, i < 39 ? 500 : 1);
        }
        start = told("a long row, one more at a time", start);
        LineChunks y = Check.full(10);
        for (int i = 0; i < 60; i++) {
            y.digest();
            y.lineOf(y.length());
            y.line(y.lines() - 1);
            y.delete(i, 20);
            y.insert(i, i, 1, 20);
        }
        told("all kinds of calls on a full row", start);
        System.exit(wrong ? 1 : 0);
    }

    private static long told(String run, long start) {
        long made = THREADS.getCurrentThreadAllocatedBytes() - start;
        System.out.println(run + ": " + made + " bytes");
        wrong |= made > MOST_BYTES;
        return THREADS.getCurrentThreadAllocatedBytes();
    }
}
