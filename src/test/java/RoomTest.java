import com.sun.management.ThreadMXBean;
import java.lang.management.ManagementFactory;

/** A new object makes its rows once, and 512 calls, among them every one of the face, make nothing more. */
public final class RoomTest {
    /** 21 maps of 1,200 ints, and what the virtual machine keeps with each object. */
    private static final long NEW_OBJECT_BYTES = 21 * 1_200 * 4 + 5_000;
    private static final int ROUNDS = 22;
    private static final ThreadMXBean THREADS = (ThreadMXBean) ManagementFactory.getThreadMXBean();

    public static void main(String[] args) {
        Checks checks = new Checks("RoomTest");
        // What is done for the first time also loads classes, which makes objects of its own.
        useUp(new OrderedVersions());
        bytesMade();
        long start = bytesMade();
        long byLooking = bytesMade() - start;
        start = bytesMade();
        OrderedVersions x = new OrderedVersions();
        long made = bytesMade() - start - byLooking;
        checks.due("a new object makes " + made + " bytes, few enough", made <= NEW_OBJECT_BYTES, true);
        start = bytesMade();
        useUp(x);
        made = bytesMade() - start - byLooking;
        checks.due("bytes that 512 calls make", made, 0L);
        checks.end();
    }

    /** 6 calls and 22 times 23, none of which throws: what is thrown is made, too. */
    private static void useUp(OrderedVersions x) {
        x.load(0, 2, 300, 1, 0);
        x.snapshot();
        x.load(1, 2, 300, 1, 0);
        x.snapshot();
        x.open(1, 0, false);
        x.open(2, 0, true);
        for (int i = 0; i < ROUNDS; i++) {
            change(x);
            ask(x);
            x.cut(0, 300);
            x.restore(3);
            x.release(3);
        }
    }

    private static void change(OrderedVersions x) {
        x.load(1, 2, 300, 1, 0);
        x.merge(1);
        x.snapshot();
        x.remove(5);
        x.put(5, 6);
        x.open(3, 0, false);
        x.next(2);
        x.peek(2);
        x.skip(2, 600);
        x.close(2);
    }

    private static void ask(OrderedVersions x) {
        x.size(3);
        x.get(3, 5);
        x.rank(3, 300);
        x.select(3, 599);
        x.near(3, 300, true);
        x.sum(3, 0, 599);
        x.greatest(3, 0, 599);
        x.differs(0, 3);
        x.firstDifference(0, 3);
        x.astray();
    }

    private static long bytesMade() {
        return THREADS.getThreadAllocatedBytes(Thread.currentThread().getId());
    }
}
