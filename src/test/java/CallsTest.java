/** "An object is used for at most 512 calls after it has been made": all 512 are answered as due. */
public final class CallsTest {
    private static final State[] BEGINNINGS = {State.NEW, State.SEEDED_AND_FED, State.OVER_AND_FED};
    private static final Run[] FILLINGS = {
        Face::clear,
        Face::own,
        face -> face.draw(400),
        face -> face.feed(-1, 9),
        face -> face.feed(0x0102030405060708L, 8),
        face -> face.keyed(31),
        face -> face.hash(31),
        face -> {
            face.feed(5, 1);
            face.seed();
        },
        face -> {
            face.feed(6, 2);
            face.reseed();
            face.draw(33);
        },
        face -> {
            face.feed(7, 3);
            face.seed();
            face.forget();
        },
    };

    public static void main(String[] args) {
        Due.sentence("What it is: An object is used for at most 512 calls after it has been made");
        for (int filling = 0; filling < FILLINGS.length; filling++) {
            for (State state : BEGINNINGS) {
                lastCalls("filling " + filling + ", " + state, state.run, FILLINGS[filling]);
            }
        }
        laterCallsEnd();
        Due.finish();
    }

    /** What calls behind the 512th answer is free, but LANGUAGE.md lets none of them throw. */
    private static void laterCallsEnd() {
        SeedMill mill = new SeedMill();
        for (int i = 0; i < 600; i++) {
            mill.feed(i, i % 10);
            mill.seed();
            mill.feed(i, 8);
            mill.reseed();
            mill.draw(i);
            mill.interval(i);
            mill.out(i);
            mill.counter();
            mill.state(i % 3, i);
            mill.hash(i);
            mill.own();
            mill.keyed(i);
            mill.count(i);
            mill.check();
        }
        mill.forget();
        mill.clear();
    }

    /** One object for each call that can be the last of the 512. */
    private static void lastCalls(String what, Run begin, Run filling) {
        lastCall(what + ": feed", begin, filling, face -> face.feed(0x99, 1));
        lastCall(what + ": clear", begin, filling, Face::clear);
        lastCall(what + ": seed", begin, filling, Face::seed);
        lastCall(what + ": reseed", begin, filling, Face::reseed);
        lastCall(what + ": draw", begin, filling, face -> face.draw(40));
        lastCall(what + ": interval", begin, filling, face -> face.interval(1000));
        lastCall(what + ": out", begin, filling, face -> face.out(0));
        lastCall(what + ": counter", begin, filling, Face::counter);
        lastCall(what + ": state 0", begin, filling, face -> face.state(0, 31));
        lastCall(what + ": state 1", begin, filling, face -> face.state(1, 31));
        lastCall(what + ": forget", begin, filling, Face::forget);
        lastCall(what + ": hash", begin, filling, face -> face.hash(31));
        lastCall(what + ": own", begin, filling, Face::own);
        lastCall(what + ": keyed", begin, filling, face -> face.keyed(31));
        lastCall(what + ": count", begin, filling, face -> face.count(3));
        lastCall(what + ": check", begin, filling, Face::check);
    }

    private static void lastCall(String what, Run begin, Run filling, Run.Call last) {
        Mill mill = new Mill();
        Reference reference = new Reference();
        begin.on(mill);
        begin.on(reference);
        // A filling has at most three calls; the rest up to the last one is made of single ones.
        while (mill.calls() + 3 < Mill.CALLS) {
            filling.on(mill);
            filling.on(reference);
        }
        while (mill.calls() + 1 < Mill.CALLS) {
            Due.is(what + ", before the last", reference.counter(), mill.counter());
        }
        Due.is(what + ", call 512", last.on(reference), last.on(mill));
        Due.is(what + ", calls", Mill.CALLS, mill.calls());
    }
}
