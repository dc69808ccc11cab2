import com.sun.management.ThreadMXBean;
import java.lang.management.ManagementFactory;

/** A run of some 500 calls makes nothing but the object itself, and that is small. */
public final class RoomTest {
    private static final long OBJECT_LIMIT = 100_000;

    public static void main(String[] args) {
        Due due = new Due();
        ThreadMXBean threads = (ThreadMXBean) ManagementFactory.getThreadMXBean();
        // The first time loads classes; only the second is looked at.
        for (int round = 0; round < 2; round++) {
            long start = threads.getCurrentThreadAllocatedBytes();
            KeyFob fob = new KeyFob();
            long made = threads.getCurrentThreadAllocatedBytes();
            int statuses = use(fob);
            long used = threads.getCurrentThreadAllocatedBytes();
            if (round == 1) {
                due.is("STATUS other than 0", statuses, 0);
                due.holds("an object has " + (made - start) + " bytes", made - start < OBJECT_LIMIT);
                due.holds("calls made " + (used - made) + " bytes", used - made < 1000);
            }
        }
        due.end();
    }

    private static int use(KeyFob fob) {
        int wrong = 0;
        for (int i = 0; i < 36; i++) {
            fob.touch();
            // MAKE with a WORD of 32 bytes, a text and a USER of one byte each
            fob.feed(0xA3015820, 1, 2, 3, 4);
            fob.feed(5, 6, 7, 8, 0x02614103);
            fob.feed(0x41000000 + (i % 10 << 16), 0, 0, 0, 0);
            fob.trim(42);
            wrong |= fob.send(1);
            wrong |= fob.check() - 1;
            wrong |= fob.forged(i);
            // GET of all of them without a touch
            fob.feed(0xA3016141, 0x02582000, 1, 2, 3);
            fob.feed(4, 5, 6, 7, 5);
            fob.feed(0xF4000000, 0, 0, 0, 0);
            fob.trim(41);
            wrong |= fob.send(2);
            if (i > 0) {
                wrong |= fob.send(8);
            }
        }
        return wrong;
    }
}
