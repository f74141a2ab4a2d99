import java.util.Arrays;

/** Promises 1 to 3, and the input's bound under "Terms". */
public final class InputTest {
    private static final int[] WRONG_SIZES =
            {0, 9, -1, -8, 16, 256 + 1, 65536 + 1, Integer.MIN_VALUE, Integer.MAX_VALUE};

    public static void main(String[] args) {
        none();
        newObject();
        newObjectsAreApart();
        lowestBytes();
        highestFirst();
        behindTheInput();
        wrongSizes();
        moreThan300();
        exactly300();
        refusedThenFitting();
        clear();
        clearOfNone();
        clearLeavesTheRest();
        Due.finish();
    }

    private static void none() {
        Due.sentence("The constants: NONE = -1");
        Due.is("NONE", -1, SeedMill.NONE);
        Due.is("out(0) of a new object", SeedMill.NONE, new Mill().out(0));
    }

    private static void newObject() {
        Due.sentence("Promise 1: No input, no key of its own, not seeded.");
        Mill mill = new Mill();
        Due.is("count(0), the input", 0, mill.count(0));
        Due.is("count(2), the own key", 0, mill.count(2));
        Due.is("counter()", 0, mill.counter());
        Due.is("state(0, 0)", -1, mill.state(0, 0));
        Due.is("state(1, 0)", -1, mill.state(1, 0));
        Due.is("count(1), what was drawn", 0, mill.count(1));
        Due.is("count(3), draws", 0, mill.count(3));
        Due.is("count(4), the interval", 100, mill.count(4));
        Look.asDue("new", face -> { });
    }

    private static void newObjectsAreApart() {
        Due.sentence("Promise 1: A new object, beside others");
        for (State state : State.values()) {
            Mill other = new Mill();
            state.run.on(other);
            Look.asDue("beside " + state, face -> { });
        }
        Look.asDue("beside none", State.DRAWN_AND_FED.run.then(face -> State.OVER.run.on(new Mill())));
    }

    private static void lowestBytes() {
        Due.sentence("Promise 2: The n lowest bytes of a number are put behind the input");
        byte[] whole = Bytes.ofHex("8091a2b3c4d5e6f7");
        for (int n = 1; n <= 8; n++) {
            int size = n;
            Run byOne = Run.due("feed of " + n, n, face -> face.feed(0x8091A2B3C4D5E6F7L, size));
            Look.asDue("feed of " + n, byOne);
            byte[] lowest = Arrays.copyOfRange(whole, 8 - n, 8);
            Look.same("feed of " + n + " byte by byte", byOne, byteByByte(lowest));
            if (n < 8) {
                // What stands above the n lowest bytes is not looked at.
                long above = 0x8091A2B3C4D5E6F7L ^ -1L << 8 * n;
                Look.same("feed of " + n + " under other bytes", byOne,
                        face -> face.feed(above, size));
            }
        }
    }

    private static Run byteByByte(byte[] bytes) {
        return face -> {
            for (byte oneByte : bytes) {
                face.feed(oneByte, 1);
            }
        };
    }

    private static void highestFirst() {
        Due.sentence("Promise 2: the highest of them first");
        for (long number : new long[] {0, -1, 1, 0x80, 0xFF, 0x100, Long.MIN_VALUE, Long.MAX_VALUE}) {
            Look.asDue("feed(" + number + ", 8)", face -> face.feed(number, 8));
            Look.asDue("feed(" + number + ", 1)", face -> face.feed(number, 1));
        }
        Look.same("feed(0x0102, 2)", Run.feed(Bytes.ofHex("01")).then(Run.feed(Bytes.ofHex("02"))),
                face -> face.feed(0x0102, 2));
    }

    private static void behindTheInput() {
        Due.sentence("Promise 2: put behind the input: how many it has");
        Run run = face -> {
            int had = 0;
            for (int n = 1; n <= 8; n++) {
                had += n;
                Due.is("feed of " + n, had, face.feed(-n, n));
                Due.is("count(0)", had, face.count(0));
            }
        };
        Look.asDue("feeds of 1 to 8", run);
        Look.asDue("behind bytes 0", Run.feed(Bytes.all(3, 0)).then(Run.feed(Bytes.all(2, 0))));
    }

    private static void wrongSizes() {
        Due.sentence("Promise 2: NONE, and nothing is done, when n is not 1 .. 8");
        for (State state : State.values()) {
            for (int n : WRONG_SIZES) {
                Look.unchanged("feed(1, " + n + ")", state, -1, face -> face.feed(1, n));
            }
        }
        Due.is("feed(1, 1)", 1, new Mill().feed(1, 1));
        Due.is("feed(1, 8)", 8, new Mill().feed(1, 8));
    }

    private static void moreThan300() {
        Due.sentence("Promise 2: NONE, and nothing is done, when there would be more than 300");
        for (int had = 292; had <= 300; had++) {
            for (int n = 1; n <= 8; n++) {
                int size = n;
                String what = "feed of " + n + " behind " + had;
                Run before = Run.feed(Bytes.some(had, had));
                if (had + n > 300) {
                    Look.same(what, before,
                            before.then(Run.due(what, -1, face -> face.feed(0x55, size))));
                } else {
                    Look.asDue(what, before.then(
                            Run.due(what, had + n, face -> face.feed(0x55, size))));
                }
            }
        }
        for (int n = 1; n <= 8; n++) {
            int size = n;
            Look.unchanged("feed of " + n, State.FULL, -1, face -> face.feed(1, size));
            Look.unchanged("feed of " + n, State.SEEDED_AND_FULL, -1, face -> face.feed(1, size));
        }
    }

    private static void exactly300() {
        Due.sentence("Terms: THE INPUT is a row that is put together; at most 300 bytes.");
        Run full = face -> {
            for (int i = 1; i <= 300; i++) {
                Due.is("byte " + i, i, face.feed(i, 1));
            }
        };
        Mill mill = new Mill();
        full.on(mill);
        Due.is("byte 301", -1, mill.feed(301, 1));
        Due.is("count(0)", 300, mill.count(0));
        Look.asDue("300 bytes", full);
    }

    private static void refusedThenFitting() {
        Due.sentence("Promise 2: nothing is done (a smaller feed fits still)");
        Run run = Run.feed(Bytes.some(297, 1))
                .then(Run.due("4 behind 297", -1, face -> face.feed(0x01020304, 4)))
                .then(Run.due("2 behind 297", 299, face -> face.feed(0x0506, 2)))
                .then(Run.due("2 behind 299", -1, face -> face.feed(0x0708, 2)))
                .then(Run.due("1 behind 299", 300, face -> face.feed(0x09, 1)))
                .then(Run.due("1 behind 300", -1, face -> face.feed(0x0A, 1)));
        byte[] kept = Bytes.join(Bytes.some(297, 1), Bytes.ofHex("050609"));
        Look.same("refused, then fitting", Run.feed(kept), run);
    }

    private static void clear() {
        Due.sentence("Promise 3: The input is empty: how many bytes it had.");
        for (int had : new int[] {1, 2, 55, 56, 64, 299, 300}) {
            Run cleared = Run.feed(Bytes.some(had, 1)).then(Run.due("clear() of " + had, had, Face::clear));
            Look.same("clear() of " + had, face -> { }, cleared);
            Look.same("fed after clear() of " + had, Run.feed(Bytes.ofText("ab")),
                    cleared.then(Run.due("feed", 2, face -> face.feed(0x6162, 2))));
            Look.same("full after clear() of " + had, State.FULL.run, cleared.then(State.FULL.run));
        }
    }

    private static void clearOfNone() {
        Due.sentence("Promise 3: how many bytes it had (none)");
        for (State state : State.values()) {
            if (!state.isFed()) {
                Look.unchanged("clear()", state, 0, Face::clear);
            }
        }
        Look.same("clear() twice", face -> { }, State.FED.run
                .then(Run.due("clear()", 3, Face::clear)).then(Run.due("clear()", 0, Face::clear)));
    }

    private static void clearLeavesTheRest() {
        Due.sentence("Promise 3: The input is empty (and nothing else is changed)");
        Look.same("clear() when seeded", State.SEEDED.run,
                State.SEEDED_AND_FED.run.then(Run.due("clear()", 7, Face::clear)));
        Look.same("clear() when seeded", State.SEEDED.run,
                State.SEEDED_AND_FULL.run.then(Run.due("clear()", 300, Face::clear)));
        Look.same("clear() when drawn", State.DRAWN.run,
                State.DRAWN_AND_FED.run.then(Run.due("clear()", 9, Face::clear)));
        Look.same("clear() when over", State.OVER.run,
                State.OVER_AND_FED.run.then(Run.due("clear()", 10, Face::clear)));
        Look.same("clear() when forgotten", State.FORGOTTEN.run,
                State.FORGOTTEN_AND_FED.run.then(Run.due("clear()", 11, Face::clear)));
    }
}
