/** Promises 7, 9 and 15, and the counter and the interval under "Terms". */
public final class CounterTest {
    private static final int[] WRONG_INTERVALS =
            {0, 1001, -1, -1000, 1002, 65536 + 1, Integer.MIN_VALUE, Integer.MAX_VALUE};
    private static final int[] NO_COUNT =
            {-1, 5, -5, 6, 256, 65536, Integer.MIN_VALUE, Integer.MAX_VALUE};

    public static void main(String[] args) {
        oneWhenSeeded();
        oneMoreWithEachDraw();
        firstInterval();
        upToTheInterval();
        longestInterval();
        interval();
        wrongIntervals();
        intervalStays();
        intervalUnderTheCounter();
        counterOfNone();
        counts();
        drawsSinceItWasBegun();
        otherCounts();
        Due.finish();
    }

    private static Run draw(int n, int want) {
        return Run.due("draw(" + n + ")", want, face -> face.draw(n));
    }

    private static Run draws(int times) {
        return face -> {
            for (int i = 1; i <= times; i++) {
                Due.is("draw " + i, 0, face.draw(1));
            }
        };
    }

    private static Run interval(int n, int want) {
        return Run.due("interval(" + n + ")", want, face -> face.interval(n));
    }

    private static Run counter(int want) {
        return Run.due("counter()", want, Face::counter);
    }

    private static Run count(int what, int want) {
        return Run.due("count(" + what + ")", want, face -> face.count(what));
    }

    private static void oneWhenSeeded() {
        Due.sentence("Terms: THE COUNTER is 1 when it is seeded");
        byte[] row = Bytes.ofHex("00");
        for (State state : State.values()) {
            state.run.then(Face::clear).then(Run.seed(row)).then(counter(1)).on(new Mill());
            if (state.isSeeded()) {
                state.run.then(Face::clear).then(Run.feed(row)).then(Face::reseed).then(counter(1))
                        .on(new Mill());
            }
        }
    }

    private static void oneMoreWithEachDraw() {
        Due.sentence("Terms: and one more with each draw");
        Run run = State.SEEDED.run;
        for (int i = 1; i <= 20; i++) {
            run = run.then(counter(i)).then(draw(10 * i, 0)).then(counter(i + 1))
                    .then(draw(0, 2)).then(draw(401, 2)).then(counter(i + 1));
        }
        Look.asDue("twenty draws", run);
        Look.asDue("a draw with input", State.SEEDED_AND_FED.run.then(draw(1, 0)).then(counter(2)));
        State.OVER_AND_FED.run.then(counter(2)).then(draw(1, 3)).then(counter(2)).on(new Mill());
    }

    private static void firstInterval() {
        Due.sentence("Terms: with more than the INTERVAL, at first 100, nothing is drawn");
        Run hundred = State.SEEDED.run.then(draws(100));
        Look.asDue("the first 100 draws", hundred.then(counter(101)));
        Look.same("draw 101", hundred, hundred.then(draw(1, 3)).then(draw(400, 3)).then(counter(101)));
        Run fed = hundred.then(Run.feed(Bytes.some(9, 1)));
        Look.same("draw 101 with input", fed, fed.then(draw(1, 3)).then(count(0, 9)));
        Look.asDue("draw 101 with an interval of 101", hundred.then(interval(101, 1))
                .then(draw(1, 0)).then(draw(1, 3)));
        Look.asDue("draw 101 reseeded", fed.then(Run.due("reseed()", 1, Face::reseed))
                .then(draw(1, 0)).then(counter(2)));
        Look.asDue("draw 101 seeded anew", fed.then(Run.due("seed()", 1, Face::seed))
                .then(draw(1, 0)).then(counter(2)));
    }

    private static void upToTheInterval() {
        Due.sentence("Terms: with more than the INTERVAL nothing is drawn");
        for (int n : new int[] {1, 2, 3, 99, 100, 101, 200}) {
            Run all = State.SEEDED.run.then(interval(n, 1)).then(draws(n)).then(counter(n + 1));
            Look.asDue(n + " draws", all);
            Look.same("draw " + (n + 1) + " of " + n, all, all.then(draw(1, 3)));
        }
    }

    private static void longestInterval() {
        Due.sentence("Promise 7: The interval .. 1000 (as far as 512 calls go)");
        Mill mill = new Mill();
        mill.feed(1, 1);
        mill.seed();
        Due.is("interval(1000)", 1, mill.interval(1000));
        while (mill.calls() < Mill.CALLS - 1) {
            Due.is("draw(1)", 0, mill.draw(1));
        }
        Due.is("counter()", 509, mill.counter());
    }

    private static void interval() {
        Due.sentence("Promise 7: The interval: 1");
        for (State state : State.values()) {
            for (int n : new int[] {1, 2, 100, 999, 1000}) {
                Look.asDue(state + ": interval(" + n + ")",
                        state.run.then(interval(n, 1)).then(count(4, n)));
            }
        }
        Look.asDue("the latest", interval(1000, 1).then(interval(1, 1)).then(count(4, 1)));
    }

    private static void wrongIntervals() {
        Due.sentence("Promise 7: 0, and nothing is done, when it is not 1 .. 1000.");
        for (State state : State.values()) {
            for (int n : WRONG_INTERVALS) {
                Look.unchanged("interval(" + n + ")", state, 0, face -> face.interval(n));
            }
        }
        Look.same("wrong ones behind 7", interval(7, 1), interval(7, 1)
                .then(interval(0, 0)).then(interval(1001, 0)).then(count(4, 7)));
    }

    private static void intervalStays() {
        Due.sentence("Promise 7: The interval (whatever calls come since)");
        byte[] row = Bytes.ofText("row");
        interval(3, 1).then(Run.own(row)).then(Run.seed(row)).then(count(4, 3))
                .then(draw(1, 0)).then(draw(1, 0)).then(draw(1, 0)).then(draw(1, 3)).then(count(4, 3))
                .then(Run.feed(row)).then(Face::reseed).then(count(4, 3))
                .then(Face::forget).then(count(4, 3)).then(Run.seed(row)).then(count(4, 3))
                .then(draw(1, 0)).then(draw(1, 0)).then(draw(1, 0)).then(draw(1, 3)).on(new Mill());
    }

    private static void intervalUnderTheCounter() {
        Due.sentence("Promise 6: 3 the counter is over the interval (which was set since)");
        Run five = State.SEEDED.run.then(draws(4)).then(counter(5));
        Look.asDue("4 under 5", five.then(interval(4, 1)).then(draw(1, 3)));
        Look.asDue("1 under 5", five.then(interval(1, 1)).then(draw(1, 3)));
        Look.asDue("5 at 5", five.then(interval(5, 1)).then(draw(1, 0)).then(draw(1, 3)));
        Look.asDue("6 over 5", five.then(interval(6, 1)).then(draw(1, 0)).then(draw(1, 0))
                .then(draw(1, 3)));
        Look.asDue("4 under 5, a refused 1001, then 5", five.then(interval(4, 1))
                .then(interval(1001, 0)).then(draw(1, 3)).then(interval(5, 1)).then(draw(1, 0)));
    }

    private static void counterOfNone() {
        Due.sentence("Promise 9: The counter; 0 when it is not seeded.");
        for (State state : State.values()) {
            Look.unchanged("counter()", state, state.reached().counter(), Face::counter);
        }
        State.FED.run.then(counter(0)).then(Face::seed).then(counter(1)).then(draw(1, 0))
                .then(counter(2)).then(Face::forget).then(counter(0)).then(draw(1, 1))
                .then(counter(0)).on(new Mill());
    }

    private static void counts() {
        Due.sentence("Promise 15: Bytes of the input (what 0), of what was drawn latest (1), "
                + "of the key of its own (2), draws since it was begun (3), the interval (4)");
        Run.own(Bytes.some(7, 1)).then(Run.seed(Bytes.some(4, 1))).then(draw(17, 0)).then(draw(0, 2))
                .then(draw(19, 0)).then(Run.feed(Bytes.some(5, 1))).then(interval(77, 1))
                .then(count(0, 5)).then(count(1, 19)).then(count(2, 7)).then(count(3, 2))
                .then(count(4, 77)).on(new Mill());
        Run.own(Bytes.some(300, 1)).then(Run.seed(Bytes.some(300, 2))).then(interval(1000, 1))
                .then(draw(400, 0)).then(Run.feed(Bytes.some(300, 3)))
                .then(count(0, 300)).then(count(1, 400)).then(count(2, 300)).then(count(3, 1))
                .then(count(4, 1000)).on(new Mill());
        for (State state : State.values()) {
            for (int what = 0; what <= 4; what++) {
                int which = what;
                Look.unchanged("count(" + what + ")", state, state.reached().count(what),
                        face -> face.count(which));
            }
        }
    }

    private static void drawsSinceItWasBegun() {
        Due.sentence("Promise 15: draws since it was begun (3)");
        byte[] row = Bytes.ofHex("00");
        Run.seed(row).then(count(3, 0)).then(interval(2, 1)).then(draw(1, 0)).then(count(3, 1))
                .then(draw(0, 2)).then(draw(401, 2)).then(count(3, 1)).then(draw(400, 0))
                .then(count(3, 2)).then(draw(1, 3)).then(count(3, 2))
                .then(Run.feed(row)).then(Face::reseed).then(count(3, 2)).then(draw(1, 0))
                .then(count(3, 3)).then(Run.seed(row)).then(count(3, 3)).then(draw(1, 0))
                .then(count(3, 4)).then(Face::forget).then(count(3, 4)).then(draw(1, 1))
                .then(count(3, 4)).then(Run.seed(row)).then(draw(1, 0)).then(count(3, 5))
                .on(new Mill());
    }

    private static void otherCounts() {
        Due.sentence("Promise 15: NONE for others.");
        for (State state : State.values()) {
            for (int what : NO_COUNT) {
                Look.unchanged("count(" + what + ")", state, -1, face -> face.count(what));
            }
        }
    }
}
