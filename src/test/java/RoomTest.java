import com.sun.management.ThreadMXBean;
import java.lang.management.ManagementFactory;

/** What an object and 512 of its dearest calls make stays small: the rows are made once, by the constructor. */
public final class RoomTest {
    private static final long NEW_OBJECT_BYTES = 160_000;
    private static final long CALL_BYTES = 20_000;

    public static void main(String[] args) {
        Checks checks = new Checks("RoomTest");
        useUp(new OrderedVersions());
        long start = bytesMade();
        OrderedVersions x = new OrderedVersions();
        long made = bytesMade() - start;
        checks.due("a new object makes " + made + " bytes, few enough", made <= NEW_OBJECT_BYTES, true);
        start = bytesMade();
        useUp(x);
        made = bytesMade() - start;
        checks.due("512 calls make " + made + " bytes, few enough", made <= CALL_BYTES, true);
        checks.end();
    }

    private static void useUp(OrderedVersions x) {
        x.load(0, 2, 300, 1, 0);
        x.snapshot();
        for (int i = 0; i < 42; i++) {
            x.load(1, 2, 300, 1, 0);
            x.merge(1);
            x.snapshot();
            x.open(2, 0, false);
            x.skip(0, 600);
            x.differs(0, 1);
            x.cut(0, 300);
            x.put(5, 5);
            x.restore(2);
            x.close(0);
            x.release(2);
            x.astray();
        }
    }

    private static long bytesMade() {
        ThreadMXBean threads = (ThreadMXBean) ManagementFactory.getThreadMXBean();
        return threads.getThreadAllocatedBytes(Thread.currentThread().getId());
    }
}
