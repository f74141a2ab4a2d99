import java.util.Random;

/** Long mixed runs of calls, every answer compared with the reference's. */
public final class RunsTest {
    private static final int RUNS = 600;
    private static final int[] ODD = {0, -1, 1, 2, 8, 9, 31, 32, 33, 399, 400, 401, 1000, 1001,
        Integer.MIN_VALUE, Integer.MAX_VALUE};

    public static void main(String[] args) {
        for (int run = 0; run < RUNS; run++) {
            Random random = new Random(run);
            Mill mill = new Mill();
            Reference reference = new Reference();
            while (mill.calls() < Mill.CALLS) {
                int times = random.nextInt(40) == 0 ? 40 : 1;
                Run.Call call = times == 1 ? anyCall(random) : anyFeed(random);
                for (int i = 0; i < times && mill.calls() < Mill.CALLS; i++) {
                    String what = "run " + run + ", call " + (mill.calls() + 1);
                    Due.is(what, call.on(reference), call.on(mill));
                }
            }
        }
        Due.finish();
    }

    private static int number(Random random, int limit) {
        return random.nextInt(6) == 0 ? ODD[random.nextInt(ODD.length)] : random.nextInt(limit);
    }

    private static Run.Call anyFeed(Random random) {
        long bytes = random.nextLong();
        int n = number(random, 10);
        return face -> face.feed(bytes, n);
    }

    private static Run.Call anyCall(Random random) {
        int byteOfMany = number(random, 401);
        int byteOf32 = number(random, 33);
        int few = number(random, 6);
        int which = number(random, 3);
        int interval = number(random, 12);
        return switch (random.nextInt(34)) {
            case 0 -> Face::clear;
            case 1, 2 -> Face::seed;
            case 3, 4 -> Face::reseed;
            case 5, 6, 7, 8 -> face -> face.draw(byteOfMany);
            case 9 -> face -> face.interval(interval);
            case 10, 11, 12 -> face -> face.out(byteOfMany);
            case 13 -> Face::counter;
            case 14, 15, 16 -> face -> face.state(which, byteOf32);
            case 17 -> random.nextInt(4) == 0 ? Face::forget : Face::check;
            case 18, 19 -> face -> face.hash(byteOf32);
            case 20 -> Face::own;
            case 21, 22 -> face -> face.keyed(byteOf32);
            case 23, 24 -> face -> face.count(few);
            case 25 -> Face::check;
            default -> anyFeed(random);
        };
    }
}
