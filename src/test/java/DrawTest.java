/** Promises 6 and 8, and the mill's drawing under "Terms". */
public final class DrawTest {
    private static final int[] WRONG_SIZES =
            {0, 401, -1, -400, 402, 65536 + 1, 1 << 31 | 1, Integer.MIN_VALUE, Integer.MAX_VALUE};

    public static void main(String[] args) {
        known();
        draw();
        stirredFirstIfNotEmpty();
        asOftenAsThereMustBe();
        nextBytes();
        stirredBehind();
        notSeeded();
        wrongSizes();
        overTheInterval();
        orderOfRefusals();
        outOfTheLatest();
        beyondWhatWasDrawn();
        nothingDrawn();
        outAfterOtherCalls();
        Due.finish();
    }

    private static Run draw(int n, int want) {
        return Run.due("draw(" + n + ")", want, face -> face.draw(n));
    }

    private static Run out(int i, int want) {
        return Run.due("out(" + i + ")", want, face -> face.out(i));
    }

    private static void known() {
        Due.sentence("Terms: DRAWN n bytes with a row");
        // A published example of such a mill over this hash: the second draw of 128 bytes.
        Mill mill = new Mill();
        Run.seed(Bytes.ofHex("ca851911349384bffe89de1cbdc46e6831e44d34a4fb935ee285dd14b71a7488"
                + "659ba96c601dc69fc902940805ec0ca8")).then(draw(128, 0)).then(draw(128, 0)).on(mill);
        byte[] due = Bytes.ofHex("e528e9abf2dece54d47c7e75e5fe302149f817ea9fb4bee6f4199697d04d5b89"
                + "d54fbb978a15b5c443c9ec21036d2460b6f73ebad0dc2aba6e624abf07745bc1"
                + "07694bb7547bb0995f70de25d6b29e2d3011bb19d27676c07162c8b5ccde0668"
                + "961df86803482cb37ed6d5c0bb8d50cf1f50d476aa0458bdaba806f48be9dcb8");
        for (int i = 0; i < due.length; i++) {
            Due.is("out(" + i + ")", due[i] & 0xFF, mill.out(i));
        }
    }

    private static void draw() {
        Due.sentence("Promise 6: Draws n bytes with the input, which is empty then: 0.");
        for (State state : State.values()) {
            if (state.isSeeded() && !state.isOver()) {
                for (int n : new int[] {1, 2, 399, 400}) {
                    Look.asDue(state + ": draw(" + n + ")", state.run.then(draw(n, 0))
                            .then(Run.due("count(0)", 0, face -> face.count(0)))
                            .then(Run.due("count(1)", n, face -> face.count(1))));
                }
            }
        }
    }

    private static void stirredFirstIfNotEmpty() {
        Due.sentence("Terms: if that is not empty, it is stirred with it");
        for (int n : new int[] {1, 22, 23, 86, 87, 150, 151, 214, 215, 278, 279, 299, 300}) {
            byte[] row = Bytes.some(n, n);
            Look.asDue("draw with " + n, State.SEEDED.run.then(Run.feed(row)).then(draw(33, 0)));
        }
        // Stirred with the row first is what reseed does, so the bytes are those drawn behind it.
        for (byte[] row : new byte[][] {new byte[1], Bytes.some(300, 1)}) {
            Mill fed = new Mill();
            Mill reseeded = new Mill();
            State.SEEDED.run.then(Run.feed(row)).then(draw(40, 0)).on(fed);
            State.SEEDED.run.then(Run.feed(row)).then(Face::reseed).then(draw(40, 0)).on(reseeded);
            for (int i = 0; i < 40; i++) {
                Due.is("out(" + i + ")", reseeded.out(i), fed.out(i));
            }
        }
        // Without a row there is no stirring first: the bytes are the keyed hash of the state.
        Mill mill = new Mill();
        State.SEEDED.run.on(mill);
        byte[] key = new byte[32];
        byte[] value = new byte[32];
        for (int i = 0; i < 32; i++) {
            key[i] = (byte) mill.state(0, i);
            value[i] = (byte) mill.state(1, i);
        }
        draw(32, 0).on(mill);
        byte[] due = Reference.keyedHashOf(key, value);
        for (int i = 0; i < 32; i++) {
            Due.is("with none, out(" + i + ")", due[i] & 0xFF, mill.out(i));
        }
    }

    private static void asOftenAsThereMustBe() {
        Due.sentence("Terms: V becomes the keyed hash of Key and V as often as there must be");
        for (int whole = 32; whole <= 384; whole += 32) {
            Look.asDue("draw(" + (whole - 1) + ")", State.SEEDED.run.then(draw(whole - 1, 0)));
            Look.asDue("draw(" + whole + ")", State.SEEDED.run.then(draw(whole, 0)));
            Look.asDue("draw(" + (whole + 1) + ")", State.SEEDED.run.then(draw(whole + 1, 0)));
            Due.holds("as often for " + (whole - 1) + " as for " + whole, sameState(whole - 1, whole));
            Due.holds("oftener for " + (whole + 1) + " than for " + whole, !sameState(whole, whole + 1));
        }
        Due.holds("as often for 1 as for 32", sameState(1, 32));
        Due.holds("as often for 385 as for 400", sameState(385, 400));
    }

    private static boolean sameState(int oneSize, int otherSize) {
        Mill one = new Mill();
        Mill other = new Mill();
        State.SEEDED.run.then(draw(oneSize, 0)).on(one);
        State.SEEDED.run.then(draw(otherSize, 0)).on(other);
        boolean same = true;
        for (int i = 0; i < 32; i++) {
            same &= one.state(0, i) == other.state(0, i) && one.state(1, i) == other.state(1, i);
        }
        return same;
    }

    private static void nextBytes() {
        Due.sentence("Terms: each V's bytes are the next ones, in all n");
        Mill most = new Mill();
        State.SEEDED_AND_FED.run.then(draw(400, 0)).on(most);
        int[] bytes = new int[400];
        for (int i = 0; i < 400; i++) {
            bytes[i] = most.out(i);
        }
        for (int n : new int[] {1, 31, 32, 33, 64, 65, 399}) {
            Mill fewer = new Mill();
            State.SEEDED_AND_FED.run.then(draw(n, 0)).on(fewer);
            for (int i = 0; i < n; i++) {
                Due.is("draw(" + n + ") out(" + i + ")", bytes[i], fewer.out(i));
            }
            Due.is("draw(" + n + ") out(" + n + ")", -1, fewer.out(n));
        }
    }

    private static void stirredBehind() {
        Due.sentence("Terms: then it is stirred with the row (also if it is empty)");
        for (State state : new State[] {State.SEEDED, State.SEEDED_AND_FED, State.SEEDED_AND_FULL}) {
            Look.asDue(state + ": two draws", state.run.then(draw(32, 0)).then(draw(32, 0)));
            Look.asDue(state + ": a draw, then one with a row", state.run.then(draw(1, 0))
                    .then(Run.feed(Bytes.ofHex("00"))).then(draw(400, 0)));
        }
        Mill mill = new Mill();
        State.SEEDED.run.on(mill);
        int[] keyBefore = new int[32];
        for (int i = 0; i < 32; i++) {
            keyBefore[i] = mill.state(0, i);
        }
        draw(1, 0).on(mill);
        boolean same = true;
        for (int i = 0; i < 32; i++) {
            same &= keyBefore[i] == mill.state(0, i);
        }
        Due.holds("a draw with none changes the key", !same);
    }

    private static void notSeeded() {
        Due.sentence("Promise 6: Else nothing is done: 1 not seeded");
        for (State state : State.values()) {
            if (!state.isSeeded()) {
                for (int n : new int[] {1, 32, 400}) {
                    Look.unchanged("draw(" + n + ")", state, 1, face -> face.draw(n));
                }
            }
        }
        Look.asDue("drawn when seeded", State.FED.run.then(draw(1, 1))
                .then(Run.due("seed()", 1, Face::seed)).then(draw(1, 0)));
    }

    private static void wrongSizes() {
        Due.sentence("Promise 6: Else nothing is done: 2 n not 1 .. 400");
        for (State state : State.values()) {
            if (state.isSeeded() && !state.isOver()) {
                for (int n : WRONG_SIZES) {
                    Look.unchanged("draw(" + n + ")", state, 2, face -> face.draw(n));
                }
            }
        }
        Look.asDue("right sizes behind wrong ones", State.SEEDED_AND_FED.run.then(draw(0, 2))
                .then(draw(1, 0)).then(draw(401, 2)).then(draw(400, 0)));
    }

    private static void overTheInterval() {
        Due.sentence("Promise 6: Else nothing is done: 3 the counter is over the interval.");
        for (State state : State.values()) {
            if (state.isOver()) {
                for (int n : new int[] {1, 32, 400}) {
                    Look.unchanged("draw(" + n + ")", state, 3, face -> face.draw(n));
                }
            }
        }
        Look.asDue("counter 2, interval 2", State.OVER_AND_FED.run.then(draw(9, 3))
                .then(face -> face.interval(2)).then(draw(9, 0)).then(draw(9, 3)));
    }

    private static void orderOfRefusals() {
        Due.sentence("Promise 6: 1 not seeded, 2 n not 1 .. 400, 3 the counter is over the interval.");
        for (State state : State.values()) {
            for (int n : WRONG_SIZES) {
                int want = state.isSeeded() ? 2 : 1;
                Look.unchanged("draw(" + n + ")", state, want, face -> face.draw(n));
            }
        }
    }

    private static void outOfTheLatest() {
        Due.sentence("Promise 8: Byte i of what was drawn latest");
        for (State state : new State[] {State.SEEDED, State.DRAWN_AND_FED}) {
            Look.asDue(state + ": a shorter draw", state.run.then(draw(400, 0)).then(draw(1, 0)));
            Look.asDue(state + ": a longer draw", state.run.then(draw(1, 0)).then(draw(400, 0)));
            Look.asDue(state + ": equal draws", state.run.then(draw(40, 0)).then(draw(40, 0)));
        }
        for (State state : State.values()) {
            int first = state.reached().out(0);
            int last = state.reached().out(39);
            Look.unchanged("out(0)", state, first, face -> face.out(0));
            Look.unchanged("out(39)", state, last, face -> face.out(39));
        }
    }

    private static void beyondWhatWasDrawn() {
        Due.sentence("Promise 8: NONE when there is none such.");
        for (State state : State.values()) {
            for (int i : new int[] {-1, 40, 400, 401, 65536, Integer.MIN_VALUE, Integer.MAX_VALUE}) {
                Look.unchanged("out(" + i + ")", state, -1, face -> face.out(i));
            }
        }
        for (int n : new int[] {1, 31, 32, 33, 399, 400}) {
            Mill mill = new Mill();
            State.SEEDED.run.then(draw(n, 0)).then(out(-1, -1)).then(out(n, -1)).on(mill);
            Due.holds("out(0) is a byte", mill.out(0) >= 0 && mill.out(0) <= 255);
            Due.holds("out(" + (n - 1) + ") is a byte", mill.out(n - 1) >= 0 && mill.out(n - 1) <= 255);
        }
        Run shorter = State.SEEDED.run.then(draw(400, 0)).then(draw(3, 0));
        shorter.then(out(3, -1)).then(out(31, -1)).then(out(32, -1)).then(out(399, -1)).on(new Mill());
    }

    private static void nothingDrawn() {
        Due.sentence("Promise 8: NONE when there is none such (nothing drawn)");
        for (State state : State.values()) {
            if (state.reached().count(1) == 0) {
                Mill mill = new Mill();
                state.run.on(mill);
                for (int i = 0; i <= 400; i++) {
                    Due.is(state + ": out(" + i + ")", -1, mill.out(i));
                }
            }
        }
    }

    private static void outAfterOtherCalls() {
        Due.sentence("Promise 8: what was drawn latest (whatever calls came since, but forget)");
        byte[] row = Bytes.ofText("row");
        Run drawn = State.DRAWN.run;
        Look.asDue("reseeded since", drawn.then(Run.feed(row)).then(Face::reseed));
        Look.asDue("seeded anew since", drawn.then(Run.seed(row)));
        Look.asDue("refused since", drawn.then(draw(0, 2)).then(draw(401, 2))
                .then(face -> face.interval(1)).then(draw(1, 3)));
        Look.asDue("an own key since", drawn.then(Run.own(row)));
        Look.asDue("forgotten since", drawn.then(Face::forget).then(out(0, -1)).then(draw(1, 1)));
    }
}
