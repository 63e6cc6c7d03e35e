import com.sun.management.ThreadMXBean;
import java.lang.management.ManagementFactory;

/** The room that all calls of a run share: rows are made with the object, and its calls make none. */
public final class RoomTest {
    private static final int OBJECT_BYTES = 60_000;
    private static final int CALLS_BYTES = 20_000;

    public static void main(String[] args) {
        Checks checks = new Checks();
        run(new KeySealer());
        long begin = bytes();
        KeySealer x = new KeySealer();
        long made = bytes();
        run(x);
        long end = bytes();
        checks.due("an object of " + (made - begin) + " bytes is small", made - begin < OBJECT_BYTES ? 1 : 0, 1);
        checks.due("its calls made " + (end - made) + " bytes, which is little", end - made < CALLS_BYTES ? 1 : 0, 1);
        checks.end("RoomTest");
    }

    private static long bytes() {
        return ((ThreadMXBean) ManagementFactory.getThreadMXBean()).getThreadAllocatedBytes(Thread.currentThread().getId());
    }

    /** Each kind of call that reckons, over and over. */
    private static void run(KeySealer x) {
        for (int r = 0; r < 4; r++) {
            for (int i = 0; i < 4; i++) {
                x.add(r, 8, 7919L * (r + 1) * (i + 1));
            }
        }
        x.copy(4, 0, 0, 12);
        x.copy(8, 0, 0, 16);
        x.open(5, 1);
        x.open(6, 2);
        x.use(0, 3);
        x.use(1, 3);
        x.use(2, 3);
        x.use(3, 2);
        x.use(4, 6);
        for (int i = 0; i < 20; i++) {
            int kind = 1 + 2 * (i & 1);
            int cipher = 1 + i % 3;
            x.hash(kind, 10, 3);
            x.mac(kind, 10, 3, 3);
            x.expand(kind, 10, 3, 3, 300);
            x.agree(10, 0, 5);
            x.pair(10, 11, 3);
            x.lock(cipher, 10, cipher == 1 ? 8 : 0, 4, 3, 3);
            x.unlock(cipher, 10, cipher == 1 ? 8 : 0, 4, 3, 10);
            x.sender(0, 3, kind, cipher, 12, 0, 5);
            x.receiver(1, 3, kind, cipher, 12, 1);
            x.seal(0, 13, 3, 3);
            x.unseal(1, 14, 3, 13);
            x.export(0, 15, 3, 300);
            x.sequence(0, i, i, i);
            x.told(0, 4);
            x.secret(0, 2, 15);
        }
    }
}
