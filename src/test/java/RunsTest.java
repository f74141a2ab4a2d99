import java.util.Random;

/** Long mixed runs of calls, every answer compared with the reference's. */
public final class RunsTest {
    private static final int RUNS = 400;
    private static final int CALLS = 512;
    private static final int[] ODD = {0, -1, 1, 2, 31, 32, 33, 400, 401, 1000, 1001,
        Integer.MIN_VALUE, Integer.MAX_VALUE};

    public static void main(String[] args) {
        for (int run = 0; run < RUNS; run++) {
            Random random = new Random(run);
            SeedMill mill = new SeedMill();
            Reference reference = new Reference();
            for (int call = 0; call < CALLS; call++) {
                oneCall("run " + run + ", call " + call, random, mill, reference);
            }
        }
        Due.finish();
    }

    private static int number(Random random, int limit) {
        return random.nextInt(6) == 0 ? ODD[random.nextInt(ODD.length)] : random.nextInt(limit);
    }

    private static void oneCall(String at, Random random, SeedMill mill, Reference reference) {
        int kind = random.nextInt(34);
        int n;
        switch (kind) {
            case 0 -> Due.is(at + " clear", reference.clear(), mill.clear());
            case 1, 2 -> Due.is(at + " seed", reference.seed(), mill.seed());
            case 3, 4 -> Due.is(at + " reseed", reference.reseed(), mill.reseed());
            case 5, 6, 7, 8 -> {
                n = number(random, 401);
                Due.is(at + " draw " + n, reference.draw(n), mill.draw(n));
            }
            case 9 -> {
                n = number(random, 12);
                Due.is(at + " interval " + n, reference.interval(n), mill.interval(n));
            }
            case 10, 11, 12 -> {
                n = number(random, 401);
                Due.is(at + " out " + n, Reference.at(reference.drawn, n), mill.out(n));
            }
            case 13 -> Due.is(at + " counter", reference.counter, mill.counter());
            case 14, 15, 16 -> {
                int which = number(random, 3);
                n = number(random, 33);
                Due.is(at + " state " + which + " " + n, reference.state(which, n), mill.state(which, n));
            }
            case 17 -> {
                if (random.nextInt(4) == 0) {
                    Due.is(at + " forget", reference.forget(), mill.forget());
                }
            }
            case 18, 19 -> {
                n = number(random, 33);
                Due.is(at + " hash " + n,
                        Reference.at(Reference.hashOf(reference.input), n), mill.hash(n));
            }
            case 20 -> Due.is(at + " own", reference.own(), mill.own());
            case 21, 22 -> {
                n = number(random, 33);
                byte[] keyed = Reference.keyedHashOf(reference.ownKey, reference.input);
                Due.is(at + " keyed " + n, Reference.at(keyed, n), mill.keyed(n));
            }
            case 23, 24 -> {
                n = number(random, 6);
                Due.is(at + " count " + n, reference.count(n), mill.count(n));
            }
            case 25 -> Due.is(at + " check", 1, mill.check());
            default -> feedSome(at, random, mill, reference);
        }
    }

    private static void feedSome(String at, Random random, SeedMill mill, Reference reference) {
        int times = random.nextInt(20) == 0 ? 40 : 1;
        for (int i = 0; i < times; i++) {
            long bytes = random.nextLong();
            int n = number(random, 10);
            Due.is(at + " feed " + bytes + " " + n, reference.feed(bytes, n), mill.feed(bytes, n));
        }
    }
}
