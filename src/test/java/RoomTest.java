import com.sun.management.ThreadMXBean;
import java.lang.management.ManagementFactory;

/** All calls of a run live in one room: an object is made once, and its calls make nothing more. */
public final class RoomTest {
    private static final int CALLS = 512 - 15, SLACK = 4096;

    public static void main(String[] args) {
        Due due = new Due();
        ThreadMXBean threads = (ThreadMXBean) ManagementFactory.getThreadMXBean();
        long sum = busyRun(Disks.withDisk("3;4x9,4x9,4x9", 4));
        SlippedPlaces x = Disks.withDisk("3;4x9,4x9,4x9", 4);
        long before = threads.getCurrentThreadAllocatedBytes();
        long again = busyRun(x);
        long made = threads.getCurrentThreadAllocatedBytes() - before;
        due.is("the same calls, the same answers", again, sum);
        due.holds("calls make no objects: " + made + " bytes", made < SLACK);
        due.end();
    }

    /** As many calls as are left behind the 15 that typed the disk and told its spares. */
    private static long busyRun(SlippedPlaces x) {
        long sum = 0;
        for (int i = 0; i < CALLS / 8; i++) {
            sum += x.harm(i * 5 % 324, 2);
            sum += x.write(i * 5 % 300);
            sum += x.read(i * 5 % 300);
            sum += x.of(i, 8);
            sum += x.runs(i % 3);
            sum += x.skew(1 + i % 2);
            sum += i % 16 == 15 ? x.format(i % 32 == 15) : x.ticks(0, 100);
            sum += x.digest();
        }
        return sum;
    }
}
