import com.sun.management.ThreadMXBean;
import java.lang.management.ManagementFactory;

/** No call makes an object, but for the exception that it throws; a new object is small. */
public final class MemoryTest {
    private static final int TRIES = 12;
    private static final int MOST_BYTES_OF_A_NEW_OBJECT = 16_384;

    private final ThreadMXBean threads = (ThreadMXBean) ManagementFactory.getThreadMXBean();

    public static void main(String[] args) {
        MemoryTest test = new MemoryTest();
        Check check = new Check();
        for (int group = 0; group < 2; group++) {
            check.equal("bytes that calls make in group " + group, test.leastBytesOfCalls(group), 0);
        }
        long made = test.leastBytesOfNew();
        check.same("a new object takes " + made + " bytes", String.valueOf(made <= MOST_BYTES_OF_A_NEW_OBJECT), "true");
        check.finish("MemoryTest");
    }

    /** The machine itself makes objects at times, such as when it loads a class; the program always makes its own. */
    private long leastBytesOfCalls(int group) {
        long least = Long.MAX_VALUE;
        for (int k = 0; k < TRIES; k++) {
            least = Math.min(least, bytesOfCalls(new SharingRoom(), group));
        }
        return least;
    }

    private long leastBytesOfNew() {
        long least = Long.MAX_VALUE;
        for (int k = 0; k < TRIES; k++) {
            least = Math.min(least, bytesOfNew());
        }
        return least;
    }

    private long bytesOfNew() {
        long before = threads.getCurrentThreadAllocatedBytes();
        SharingRoom x = new SharingRoom();
        long made = threads.getCurrentThreadAllocatedBytes() - before;
        return x.state() == 0 ? made : Long.MAX_VALUE;
    }

    private long bytesOfCalls(SharingRoom x, int group) {
        long before = threads.getCurrentThreadAllocatedBytes();
        points(x);
        wholeRoom(x, group);
        look(x);
        x.recover(127);
        x.give(1, 1, 0, 30);
        x.refresh();
        x.handOn(127, 2, 3);
        x.handOn(3, 7, 7);
        look(x);
        return threads.getCurrentThreadAllocatedBytes() - before;
    }

    private static void points(SharingRoom x) {
        for (int f = 0; f < 3; f++) {
            x.field(f);
            for (int at = 1; at <= 12; at++) {
                x.point(at, at * at % 31);
            }
            x.combine(0);
            x.degree();
        }
    }

    /** The dearest one: seven parties, each bad to one and slandering one, each forging. */
    private static void wholeRoom(SharingRoom x, int group) {
        x.begin(group, 7, 7);
        for (int i = 1; i <= 7; i++) {
            for (int k = 0; k < 7; k++) {
                x.give(i, k, 0, 11 * i + k);
                x.give(i, k, 1, 5 * i + 3 * k);
            }
            x.fault(i, 1, i % 7 + 1);
            x.fault(i, 2, (i + 3) % 7 + 1);
            x.fault(i, 5, 0);
            x.crash(i, 8);
        }
        for (int round = 1; round <= 7; round++) {
            x.next();
        }
    }

    private static void look(SharingRoom x) {
        x.state();
        x.key();
        x.board();
        x.told(0);
        x.digest(0);
        for (int what = 0; what <= 4; what++) {
            x.parties(what);
        }
        for (int i = 1; i <= 7; i++) {
            x.complaints(i);
            x.share(i, 0);
            x.received(i, i, 0);
            x.commitment(i, 0, 1);
        }
    }
}
