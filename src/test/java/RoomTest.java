import java.lang.management.ManagementFactory;

/** One run of 512 calls of the dearest kind stays in the room that all calls of a run share. */
public final class RoomTest {
    /** Far below the room of a run, yet room for what the virtual machine itself may make meanwhile. */
    private static final long BYTES_FOR_CALLS = 200_000;
    private static final long BYTES_FOR_OBJECT = 200_000;

    private RoomTest() {
    }

    public static void main(String[] args) {
        run();
        long before = allocated();
        SpongeDigests x = new SpongeDigests();
        long made = allocated() - before;
        Check.holds("a new object takes little room, not " + made, made < BYTES_FOR_OBJECT);
        before = allocated();
        calls(x);
        made = allocated() - before;
        Check.holds("512 calls take little room, not " + made, made < BYTES_FOR_CALLS);
        Check.finish();
    }

    private static void run() {
        calls(new SpongeDigests());
    }

    private static void calls(SpongeDigests x) {
        x.resize(0, 8192);
        x.resize(3, 8192);
        for (int i = 0; i < 480; i++) {
            x.digest(1 + i % 16, 8192);
        }
        for (int i = 0; i < 5; i++) {
            x.feed(i, i, i, i, i);
            x.end(1, 20);
            x.copy(6, 2);
            x.same(6, 2);
            x.word(6, i);
            x.alter(6, i, i);
        }
    }

    private static long allocated() {
        com.sun.management.ThreadMXBean threads =
            (com.sun.management.ThreadMXBean) ManagementFactory.getThreadMXBean();
        return threads.getThreadAllocatedBytes(Thread.currentThread().getId());
    }
}
