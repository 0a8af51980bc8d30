import com.sun.management.ThreadMXBean;
import java.lang.management.ManagementFactory;

/** How much room the calls of one object take, all 512 of the dearest ones; what was made is never given back. */
public final class RoomTest {
    private static final Due due = new Due("RoomTest");
    private static final long ALL_BYTES = 8L * 7_300_000;

    public static void main(String[] args) {
        ThreadMXBean bean = (ThreadMXBean) ManagementFactory.getThreadMXBean();
        long id = Thread.currentThread().getId();
        long sum = 0;
        for (int round = 0; round < 2; round++) {
            long before = bean.getThreadAllocatedBytes(id);
            Licenceweave x = full();
            for (int k = 0; k < 400; k++) {
                sum += x.digest();
            }
            long digests = bean.getThreadAllocatedBytes(id) - before;
            due.is("400 checksums: " + digests + " bytes", digests < ALL_BYTES / 20, true);
            before = bean.getThreadAllocatedBytes(id);
            Licenceweave y = full();
            for (int k = 0; k < 80; k++) {
                sum += y.notices(6, 0, 100).length() + y.choice(6, 0, 100, 0).length() + y.share(6, 0, 90, 0).length();
                sum += y.takeBack(0, 0, 100) + y.undo();
            }
            long others = bean.getThreadAllocatedBytes(id) - before;
            due.is("400 other calls: " + others + " bytes", others < ALL_BYTES / 20, true);
        }
        due.is("they were made", sum != 0, true);
        due.end();
    }

    /** As full as it can be. */
    private static Licenceweave full() {
        Licenceweave x = new Licenceweave();
        for (int k = 0; k < 8; k++) {
            x.licence(63, k == 7 ? 15 : 1 + k, 0, false);
        }
        for (int k = 0; k < 7; k++) {
            x.work(10, k % 3);
            x.maker(k, k, 60);
            x.maker(k, 7, 40);
            for (int m = 0; m < k; m++) {
                x.use(k, m, 1, 10);
            }
            for (int m = 0; m < 3; m++) {
                x.offer(k, (k + 3 * m) % 8, true);
            }
        }
        for (int k = 0; k < 16; k++) {
            x.hand(k % 7, k % 7, 7, 10, 20 + k, 200);
        }
        return x;
    }
}
