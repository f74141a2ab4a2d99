import java.lang.reflect.Array;
import java.lang.reflect.Field;
import java.lang.reflect.Modifier;
import java.util.ArrayList;
import java.util.Collections;
import java.util.IdentityHashMap;
import java.util.List;
import java.util.Set;

/**
 * Promise 16: "it would tell 0". No run of calls can spoil the value, so this test does it from
 * outside. How the state is held is free: it looks for an array that holds the value's bytes, and
 * tells it when there is none.
 */
public final class CheckTest {
    public static void main(String[] args) throws IllegalAccessException {
        Due.sentence("Promise 16: it would tell 0");
        int spoilt = 0;
        for (State state : State.values()) {
            if (state.isSeeded()) {
                spoilt += spoilValue(state);
            }
        }
        if (spoilt == 0) {
            System.out.println("no array holds the value's bytes: nothing could be spoilt");
        }
        Due.finish();
    }

    private static int spoilValue(State state) throws IllegalAccessException {
        int spoilt = 0;
        for (int i = 0; i < 32; i++) {
            Mill mill = new Mill();
            state.run.on(mill);
            for (Object array : arraysIn(mill)) {
                int start = placeOfValue(array, state.reached());
                if (start >= 0 && spoilByte(state, mill, array, start, i)) {
                    spoilt++;
                }
            }
        }
        return spoilt;
    }

    /** Whether the array is the value itself, not a copy that the face does not tell of. */
    private static boolean spoilByte(State state, Mill mill, Object array, int start, int i) {
        int before = mill.state(1, i);
        flip(array, start + i);
        boolean isValue = mill.state(1, i) != before;
        if (isValue) {
            Due.is(state + ": check() with byte " + i + " of the value spoilt", 0, mill.check());
        }
        flip(array, start + i);
        Due.is(state + ": check() with byte " + i + " mended", 1, mill.check());
        return isValue;
    }

    private static void flip(Object array, int at) {
        if (array instanceof byte[] bytes) {
            bytes[at] ^= 1;
        } else {
            ((int[]) array)[at] ^= 1;
        }
    }

    private static int placeOfValue(Object array, Reference reference) {
        for (int start = 0; start + 32 <= Array.getLength(array); start++) {
            int same = 0;
            while (same < 32 && (Array.getInt(array, start + same) & 0xFF) == reference.state(1, same)) {
                same++;
            }
            if (same == 32) {
                return start;
            }
        }
        return -1;
    }

    /** All arrays of int and byte that can be reached from the object. */
    private static List<Object> arraysIn(Object root) throws IllegalAccessException {
        List<Object> arrays = new ArrayList<>();
        List<Object> open = new ArrayList<>(List.of(root));
        Set<Object> seen = Collections.newSetFromMap(new IdentityHashMap<>());
        while (!open.isEmpty()) {
            Object object = open.remove(open.size() - 1);
            if (!seen.add(object)) {
                continue;
            }
            if (object instanceof int[] || object instanceof byte[]) {
                arrays.add(object);
            } else if (object instanceof Object[] row) {
                for (Object element : row) {
                    if (element != null) {
                        open.add(element);
                    }
                }
            } else if (object.getClass().getName().matches("(Mill|SeedMill)(\\$.*)?")) {
                addFields(object, open);
            }
        }
        return arrays;
    }

    private static void addFields(Object object, List<Object> open) throws IllegalAccessException {
        for (Field field : object.getClass().getDeclaredFields()) {
            if (!Modifier.isStatic(field.getModifiers()) && !field.getType().isPrimitive()) {
                field.setAccessible(true);
                Object held = field.get(object);
                if (held != null) {
                    open.add(held);
                }
            }
        }
    }
}
