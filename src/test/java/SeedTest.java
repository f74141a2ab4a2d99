/** Promises 4, 5, 10, 11 and 16, and the mill's seeding and stirring under "Terms". */
public final class SeedTest {
    private static final int[] BEYOND =
            {-1, 32, -32, 33, 64, 256, 65536, Integer.MIN_VALUE, Integer.MAX_VALUE};
    private static final int[] NEITHER =
            {-1, 2, -2, 3, 256, 65536, Integer.MIN_VALUE, Integer.MAX_VALUE};
    /** Where a stirred row, 97 bytes behind its beginning, brings one more block, and its bounds. */
    private static final int[] ROW_SIZES = {1, 2, 22, 23, 31, 32, 64, 65, 86, 87, 150, 151, 214, 215,
        278, 279, 299, 300};

    public static void main(String[] args) {
        seededRows();
        stirredTwiceIfNotEmpty();
        seed();
        seedByNone();
        seedAnew();
        reseed();
        reseedByNone();
        reseedOfNone();
        bytesOfTheState();
        beyondTheState();
        neitherKeyNorValue();
        stateOfNone();
        forget();
        forgetOfNone();
        seedAfterForget();
        check();
        Due.finish();
    }

    private static Run count(int what, int want) {
        return Run.due("count(" + what + ")", want, face -> face.count(what));
    }

    private static Run counter(int want) {
        return Run.due("counter()", want, Face::counter);
    }

    private static void seededRows() {
        Due.sentence("Terms: SEEDED: Key is 32 bytes 0, V 32 bytes 1; then stirred.");
        byte[] key = Bytes.all(32, 0);
        byte[] value = Bytes.all(32, 1);
        byte[] row = Bytes.ofText("seed");
        for (int turn = 0; turn < 2; turn++) {
            byte[] stirred = Bytes.join(Bytes.join(value, new byte[] {(byte) turn}), row);
            key = Reference.keyedHashOf(key, stirred);
            value = Reference.keyedHashOf(key, value);
        }
        Mill mill = new Mill();
        Run.seed(row).on(mill);
        for (int i = 0; i < 32; i++) {
            Due.is("state(0, " + i + ")", key[i] & 0xFF, mill.state(0, i));
            Due.is("state(1, " + i + ")", value[i] & 0xFF, mill.state(1, i));
        }
    }

    private static void stirredTwiceIfNotEmpty() {
        Due.sentence("Terms: and, if the row is not empty, once more likewise, with a byte 1 for 0");
        // A row of one byte 0 is not empty.
        for (String row : new String[] {"00", "0000", "01", "ff"}) {
            byte[] bytes = Bytes.ofHex(row);
            Look.asDue("seed by " + row, Run.seed(bytes));
            Look.asDue("reseed by " + row, State.DRAWN.run.then(Run.feed(bytes)).then(Face::reseed));
            Look.asDue("draw with " + row, State.DRAWN.run.then(Run.feed(bytes))
                    .then(face -> face.draw(1)));
        }
        Look.asDue("draw with none", State.DRAWN.run.then(face -> face.draw(1)));
        for (int n : ROW_SIZES) {
            Look.asDue("seed by " + n, Run.seed(Bytes.some(n, n)));
            Look.asDue("seed by bytes FF, " + n, Run.seed(Bytes.all(n, 0xFF)));
        }
    }

    private static void seed() {
        Due.sentence("Promise 4: Seeded by the input, which is empty then: 1");
        for (int n : ROW_SIZES) {
            Look.asDue("seed by " + n, Run.feed(Bytes.some(n, n))
                    .then(counter(0)).then(Run.due("seed() by " + n, 1, Face::seed))
                    .then(count(0, 0)).then(counter(1)));
        }
    }

    private static void seedByNone() {
        Due.sentence("Promise 4: 0, and nothing is done, when it is empty.");
        for (State state : State.values()) {
            if (state.isFed()) {
                Look.asDue(state + ": seed()", state.run.then(Run.due(state + ": seed()", 1, Face::seed)));
            } else {
                Look.unchanged("seed()", state, 0, Face::seed);
            }
        }
        Look.same("seed() by a cleared input", face -> { }, State.FED.run.then(Face::clear)
                .then(Run.due("seed()", 0, Face::seed)).then(counter(0)));
        Look.same("seed() again", State.SEEDED.run, State.SEEDED.run
                .then(Run.due("seed()", 0, Face::seed)).then(counter(1)));
    }

    private static void seedAnew() {
        Due.sentence("Promise 4: Seeded by the input (also when it was seeded before)");
        byte[] row = Bytes.ofText("row");
        for (State state : State.values()) {
            Mill fresh = new Mill();
            Mill anew = new Mill();
            Run.seed(row).on(fresh);
            state.run.then(Face::clear).then(Run.seed(row)).on(anew);
            Due.is(state + ": counter()", 1, anew.counter());
            for (int i = 0; i < 32; i++) {
                Due.is(state + ": state(0, " + i + ")", fresh.state(0, i), anew.state(0, i));
                Due.is(state + ": state(1, " + i + ")", fresh.state(1, i), anew.state(1, i));
            }
        }
        Look.asDue("what else there is stays", State.OVER.run.then(Run.seed(row))
                .then(count(1, 40)).then(count(2, 5)).then(count(3, 1)).then(count(4, 1)));
    }

    private static void reseed() {
        Due.sentence("Promise 5: Stirred with the input, which is empty then, counter 1: 1");
        for (State state : new State[] {State.SEEDED, State.DRAWN, State.OVER}) {
            for (int n : ROW_SIZES) {
                Look.asDue(state + ": reseed by " + n, state.run.then(Run.feed(Bytes.some(n, n)))
                        .then(Run.due(state + ": reseed() by " + n, 1, Face::reseed))
                        .then(count(0, 0)).then(counter(1)));
            }
        }
        Look.asDue("what else there is stays", State.OVER_AND_FED.run.then(Face::reseed)
                .then(count(1, 40)).then(count(2, 5)).then(count(3, 1)).then(count(4, 1)));
        Look.asDue("drawn from after reseed", State.OVER.run
                .then(Run.due("draw over the interval", 3, face -> face.draw(5)))
                .then(Run.feed(Bytes.ofHex("00"))).then(Run.due("reseed()", 1, Face::reseed))
                .then(Run.due("draw", 0, face -> face.draw(5)))
                .then(Run.due("draw over the interval", 3, face -> face.draw(5))));
    }

    private static void reseedByNone() {
        Due.sentence("Promise 5: 0, and nothing is done, when it is empty");
        for (State state : State.values()) {
            if (!state.isFed()) {
                Look.unchanged("reseed()", state, 0, Face::reseed);
            }
        }
        Look.same("reseed() again", State.SEEDED_AND_FED.run.then(Face::reseed),
                State.SEEDED_AND_FED.run.then(Run.due("reseed()", 1, Face::reseed))
                .then(Run.due("reseed() again", 0, Face::reseed)));
        Look.same("reseed() keeps the counter", State.DRAWN.run,
                State.DRAWN.run.then(Run.due("reseed()", 0, Face::reseed)).then(counter(2)));
    }

    private static void reseedOfNone() {
        Due.sentence("Promise 5: 0, and nothing is done, when it was not seeded");
        for (State state : State.values()) {
            if (!state.isSeeded()) {
                Look.unchanged("reseed()", state, 0, Face::reseed);
            } else if (state.isFed()) {
                Look.asDue(state + ": reseed()",
                        state.run.then(Run.due(state + ": reseed()", 1, Face::reseed)));
            }
        }
        Look.same("the input stays for seed()", Run.seed(Bytes.some(3, 1)), State.FED.run
                .then(Run.due("reseed()", 0, Face::reseed)).then(Run.due("seed()", 1, Face::seed)));
    }

    private static void bytesOfTheState() {
        Due.sentence("Promise 10: Byte i of the key (which 0) or the value (1)");
        for (State state : State.values()) {
            Reference reference = state.reached();
            for (int which = 0; which <= 1; which++) {
                int row = which;
                for (int i : new int[] {0, 1, 30, 31}) {
                    String what = "state(" + which + ", " + i + ")";
                    Look.unchanged(what, state, reference.state(which, i), face -> face.state(row, i));
                }
            }
        }
    }

    private static void beyondTheState() {
        Due.sentence("Promise 10: NONE when there is none such (byte)");
        for (State state : State.values()) {
            for (int i : BEYOND) {
                Look.unchanged("state(0, " + i + ")", state, -1, face -> face.state(0, i));
                Look.unchanged("state(1, " + i + ")", state, -1, face -> face.state(1, i));
            }
        }
    }

    private static void neitherKeyNorValue() {
        Due.sentence("Promise 10: NONE when there is none such (row)");
        for (State state : State.values()) {
            for (int which : NEITHER) {
                Look.unchanged("state(" + which + ", 0)", state, -1, face -> face.state(which, 0));
                Look.unchanged("state(" + which + ", 31)", state, -1, face -> face.state(which, 31));
                Look.unchanged("state(" + which + ", 32)", state, -1, face -> face.state(which, 32));
            }
        }
    }

    private static void stateOfNone() {
        Due.sentence("Promise 10: NONE when it is not seeded");
        for (State state : State.values()) {
            Mill mill = new Mill();
            state.run.on(mill);
            for (int i = 0; i < 32; i++) {
                Due.holds(state + ": state(0, " + i + ")", mill.state(0, i) >= 0 == state.isSeeded());
                Due.holds(state + ": state(1, " + i + ")", mill.state(1, i) >= 0 == state.isSeeded());
            }
        }
    }

    private static void forget() {
        Due.sentence("Promise 11: It is not seeded any more, and nothing is drawn: 1");
        for (State state : State.values()) {
            if (state.isSeeded()) {
                Look.asDue(state + ": forget()", state.run
                        .then(Run.due(state + ": forget()", 1, Face::forget))
                        .then(counter(0)).then(count(1, 0))
                        .then(Run.due("out(0)", -1, face -> face.out(0)))
                        .then(Run.due("state(0, 0)", -1, face -> face.state(0, 0)))
                        .then(Run.due("state(1, 0)", -1, face -> face.state(1, 0)))
                        .then(Run.due("draw(1)", 1, face -> face.draw(1))));
            }
        }
        Look.same("all that is forgotten", State.SEEDED.run.then(Face::forget), face -> { });
        Look.asDue("what else there is stays", State.OVER_AND_FED.run.then(Face::forget)
                .then(count(0, 10)).then(count(2, 5)).then(count(3, 1)).then(count(4, 1)));
    }

    private static void forgetOfNone() {
        Due.sentence("Promise 11: 0 when it was not seeded.");
        for (State state : State.values()) {
            if (!state.isSeeded()) {
                Look.unchanged("forget()", state, 0, Face::forget);
            }
        }
        Look.same("forget() again", State.DRAWN_AND_FED.run.then(Face::forget),
                State.DRAWN_AND_FED.run.then(Run.due("forget()", 1, Face::forget))
                .then(Run.due("forget() again", 0, Face::forget)));
    }

    private static void seedAfterForget() {
        Due.sentence("Promise 11: not seeded any more (until it is seeded again)");
        Run forgotten = State.SEEDED_AND_FED.run.then(Face::forget);
        Look.same("seeded after forget", Run.seed(Bytes.some(7, 6)),
                forgotten.then(Run.due("seed()", 1, Face::seed)));
        Look.asDue("drawn after forget", State.DRAWN_AND_FED.run.then(Face::forget)
                .then(Face::seed).then(count(1, 0)).then(Run.due("draw(3)", 0, face -> face.draw(3))));
    }

    private static void check() {
        Due.sentence("Promise 16: Whether V is the keyed hash that its latest stirring left it: 1, "
                + "also when it is not seeded");
        for (State state : State.values()) {
            Look.unchanged("check()", state, 1, Face::check);
            for (int n : new int[] {1, 32, 33, 400}) {
                Run drawn = state.run.then(face -> face.draw(n));
                Look.same(state + ": check() after draw(" + n + ")", drawn,
                        drawn.then(Run.due(state + ": check() after draw(" + n + ")", 1, Face::check)));
            }
            Run stirred = state.run.then(Run.feed(Bytes.some(300, 1)));
            stirred.then(Face::seed).then(Run.due(state + ": check() after seed", 1, Face::check))
                    .on(new Mill());
            stirred.then(Face::reseed).then(Run.due(state + ": check() after reseed", 1, Face::check))
                    .on(new Mill());
            stirred.then(Face::forget).then(Run.due(state + ": check() after forget", 1, Face::check))
                    .on(new Mill());
        }
    }
}
