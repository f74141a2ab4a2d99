import java.lang.management.ManagementFactory;

/** Calls make no objects: all the room is taken by the constructor, and that is little. */
public final class RoomTest {
    private static final com.sun.management.ThreadMXBean THREADS =
            (com.sun.management.ThreadMXBean) ManagementFactory.getThreadMXBean();

    public static void main(String[] args) {
        SeedMill mill = new SeedMill();
        allCalls(mill);
        long before = allocated();
        for (int i = 0; i < 200; i++) {
            allCalls(mill);
        }
        long made = allocated() - before;
        // The measuring itself may make an object or two.
        Due.holds("3000 calls make next to nothing, they made " + made + " bytes", made < 3000);

        before = allocated();
        for (int i = 0; i < 100; i++) {
            new SeedMill().clear();
        }
        long each = (allocated() - before) / 100;
        Due.holds("an object is small, it has " + each + " bytes", each < 20000);
        Due.finish();
    }

    private static long allocated() {
        return THREADS.getThreadAllocatedBytes(Thread.currentThread().getId());
    }

    private static void allCalls(SeedMill mill) {
        mill.clear();
        mill.interval(1000);
        mill.feed(1, 8);
        mill.own();
        mill.feed(1, 8);
        mill.hash(0);
        mill.keyed(0);
        mill.seed();
        mill.feed(1, 8);
        mill.reseed();
        mill.feed(1, 8);
        mill.draw(400);
        mill.out(0);
        mill.state(0, 0);
        mill.counter();
        mill.count(0);
        mill.check();
        mill.forget();
    }
}
