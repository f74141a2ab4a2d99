import java.util.LinkedHashMap;
import java.util.Map;
import java.util.function.Supplier;

/** All that the face tells of an object after a run of calls. */
final class Look {
    private static final Run LATER = face -> {
        face.draw(33);
        face.feed(0x0A0B0C, 3);
        face.reseed();
        face.draw(7);
    };

    private Look() {
    }

    /** Each call that only tells, with its answer, inside its bounds and one step beyond them. */
    static Map<String, Integer> after(Supplier<Face> maker, Run run) {
        Map<String, Integer> seen = new LinkedHashMap<>();
        Face face = made(maker, run);
        seen.put("counter()", face.counter());
        seen.put("check()", face.check());
        for (int what = -1; what <= 5; what++) {
            seen.put("count(" + what + ")", face.count(what));
        }
        for (int i = -1; i <= 32; i++) {
            seen.put("state(0, " + i + ")", face.state(0, i));
            seen.put("state(1, " + i + ")", face.state(1, i));
            seen.put("hash(" + i + ")", face.hash(i));
            seen.put("keyed(" + i + ")", face.keyed(i));
        }
        // Another object, since all bytes that can be drawn would take one over its 512 calls.
        face = made(maker, run);
        for (int i = -1; i <= seen.get("count(1)"); i++) {
            seen.put("out(" + i + ")", face.out(i));
        }
        return seen;
    }

    /** After the run the class tells what the reference tells. */
    static void asDue(String what, Run run) {
        compare(what, after(Reference::new, run), after(Mill::new, run));
    }

    /** After the one run the class tells what it tells after the other. */
    static void same(String what, Run one, Run other) {
        compare(what, after(Mill::new, one), after(Mill::new, other));
    }

    /** The call gets the answer and changes nothing: not what is told, not what later calls do. */
    static void unchanged(String what, State state, int want, Run.Call call) {
        String at = state + ": " + what;
        Run with = state.run.then(Run.due(at, want, call));
        same(at + ", then", state.run, with);
        same(at + ", later", state.run.then(LATER), with.then(LATER));
    }

    private static Face made(Supplier<Face> maker, Run run) {
        Face face = maker.get();
        run.on(face);
        return face;
    }

    private static void compare(String what, Map<String, Integer> want, Map<String, Integer> got) {
        Due.is(what + " answers in all", want.size(), got.size());
        for (Map.Entry<String, Integer> entry : want.entrySet()) {
            String call = entry.getKey();
            Due.is(what + " " + call, entry.getValue(), got.getOrDefault(call, Integer.MIN_VALUE));
        }
    }
}
