import java.lang.management.ManagementFactory;

/** The room of a run: 512 of the dearest calls stay far under 7.3 million elements in all. */
public final class RoomTest {
    private static final long ROOM = 7_300_000L * Integer.BYTES;
    private static final com.sun.management.ThreadMXBean THREADS =
            (com.sun.management.ThreadMXBean) ManagementFactory.getThreadMXBean();

    public static void main(String[] args) {
        byte[] full = Bytes.some(300, 1);
        Run drawing = Run.seed(full).then(face -> face.interval(1000));
        Run keyed = Run.own(full).then(Run.feed(full));
        dueRoom("draw(400)", drawing, face -> face.draw(400));
        dueRoom("draw(400) with input", drawing, face -> face.feed(1, 8), face -> face.draw(400));
        dueRoom("check()", drawing, Face::check);
        dueRoom("keyed(31)", keyed, face -> face.keyed(31));
        dueRoom("hash(31)", keyed, face -> face.hash(31));
        dueRoom("feed and seed", keyed, face -> face.feed(1, 8), Face::seed);
        dueRoom("feed and reseed", drawing, face -> face.feed(1, 8), Face::reseed);
        dueRoom("feed and own", drawing, face -> face.feed(1, 8), Face::own);
        Due.finish();
    }

    private static void dueRoom(String what, Run begin, Run.Call... calls) {
        long before = allocated();
        Mill mill = new Mill();
        begin.on(mill);
        while (mill.calls() + calls.length <= Mill.CALLS) {
            for (Run.Call call : calls) {
                call.on(mill);
            }
        }
        long made = allocated() - before;
        Due.holds("512 calls of " + what + " made " + made + " bytes, which is little", made < ROOM);
    }

    private static long allocated() {
        return THREADS.getThreadAllocatedBytes(Thread.currentThread().getId());
    }
}
