import java.lang.management.ManagementFactory;

/** All calls of one run live in one room: what an object makes is made by its constructor, and is small. */
public final class RoomTest {
    private static final long MOST_NEW = 100_000;

    private RoomTest() { }

    public static void main(String[] args) {
        com.sun.management.ThreadMXBean threads =
            (com.sun.management.ThreadMXBean) ManagementFactory.getThreadMXBean();
        run();
        long before = threads.getCurrentThreadAllocatedBytes();
        CopperDispatch g = new CopperDispatch();
        long made = threads.getCurrentThreadAllocatedBytes();
        use(g);
        long after = threads.getCurrentThreadAllocatedBytes();
        System.out.println("a new object takes " + (made - before) + " bytes, 512 calls take " + (after - made));
        if (made - before > MOST_NEW || after - made > 1000) {
            System.exit(1);
        }
    }

    private static void run() {
        use(new CopperDispatch());
    }

    private static void use(CopperDispatch g) {
        for (int k = 0; k < 12; k++) {
            g.line(k % 8, (k + 1 + k / 8) % 8, 1 + k % 2, 40);
        }
        for (int k = 0; k < 8; k++) {
            g.plant(k, k, 30, 0, true);
            g.offer(k, k, 10);
            g.offer(k, 2 * k, 10);
            g.start(k);
            g.reserve(k, k % 2, 9, 10 * k);
        }
        for (int k = 0; k < 10; k++) {
            g.feeder(k % 8, 7 + k);
        }
        for (int k = 0; k < 3; k++) {
            g.wheel(k);
            g.store(k, 99, 5, 10);
        }
        g.clear(100);
        for (int k = 0; k < 200; k++) {
            g.pass(2);
            g.flowAnew(k % 12);
        }
    }
}
