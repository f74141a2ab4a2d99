import java.util.Arrays;

/** Promises 13 and 14, and the keyed hash under "Terms". */
public final class KeyedHashTest {
    private static final int[] BEYOND =
            {-1, 32, -32, 33, 64, 256, 65536, Integer.MIN_VALUE, Integer.MAX_VALUE};
    private static final byte[] ROW = Bytes.ofText("what do ya want for nothing?");

    public static void main(String[] args) {
        known();
        keyAsItIs();
        elseItsHash();
        zerosBehind();
        rows();
        own();
        ownOfNone();
        ownLeavesTheRest();
        noKeyAtFirst();
        bytesOfTheKeyedHash();
        beyondTheKeyedHash();
        inputAndKeyStay();
        Due.finish();
    }

    private static byte[] keyed(byte[] key, byte[] row) {
        Mill mill = new Mill();
        Run.own(key).then(Run.feed(row)).on(mill);
        byte[] told = new byte[32];
        for (int i = 0; i < 32; i++) {
            int oneByte = mill.keyed(i);
            Due.holds("a byte, not " + oneByte, oneByte >= 0 && oneByte <= 255);
            told[i] = (byte) oneByte;
        }
        return told;
    }

    private static void dueSame(String what, byte[] want, byte[] got) {
        for (int i = 0; i < 32; i++) {
            Due.is(what + " keyed(" + i + ")", want[i] & 0xFF, got[i] & 0xFF);
        }
    }

    private static void dueOther(String what, byte[] one, byte[] other) {
        Due.holds(what + " is another keyed hash", !Arrays.equals(one, other));
    }

    private static void dueKeyed(String what, byte[] key, byte[] row) {
        dueSame(what, Reference.keyedHashOf(key, row), keyed(key, row));
    }

    private static void known() {
        Due.sentence("Terms: THE KEYED HASH of a key and a row");
        dueSame("published key of 4", Bytes.ofHex(
                "5bdcc146bf60754e6a042426089575c75a003f089d2739839dec58b964ec3843"),
                keyed(Bytes.ofText("Jefe"), ROW));
        dueSame("published key of 131", Bytes.ofHex(
                "60e431591ee0b67f0d8a26aacbf5b77f8e0bc6213728c5140546040f0ee37f54"),
                keyed(Bytes.all(131, 0xAA),
                        Bytes.ofText("Test Using Larger Than Block-Size Key - Hash Key First")));
    }

    private static void keyAsItIs() {
        Due.sentence("Terms: the key is as it is, if it has at most 64 bytes");
        for (int n : new int[] {0, 1, 31, 32, 33, 63, 64}) {
            byte[] key = Bytes.some(n, n);
            dueKeyed("key of " + n, key, ROW);
            dueOther("the hash of a key of " + n, keyed(Reference.hashOf(key), ROW), keyed(key, ROW));
        }
    }

    private static void elseItsHash() {
        Due.sentence("Terms: else its hash");
        for (int n : new int[] {65, 66, 119, 120, 128, 299, 300}) {
            byte[] key = Bytes.some(n, n);
            dueKeyed("key of " + n, key, ROW);
            dueSame("the hash of a key of " + n, keyed(Reference.hashOf(key), ROW), keyed(key, ROW));
        }
    }

    private static void zerosBehind() {
        Due.sentence("Terms: with bytes 0 behind, up to 64");
        for (int n : new int[] {0, 1, 32, 62, 63}) {
            byte[] key = Bytes.some(n, n + 1);
            dueSame("key of " + n + " with one 0", keyed(key, ROW), keyed(Arrays.copyOf(key, n + 1), ROW));
            dueSame("key of " + n + " up to 64", keyed(key, ROW), keyed(Arrays.copyOf(key, 64), ROW));
            dueOther("key of " + n + " up to 65", keyed(key, ROW), keyed(Arrays.copyOf(key, 65), ROW));
        }
        byte[] key = Bytes.some(64, 65);
        dueOther("key of 64 with one 0", keyed(key, ROW), keyed(Arrays.copyOf(key, 65), ROW));
        byte[] zeroFirst = Bytes.join(new byte[1], Bytes.some(3, 1));
        dueOther("a 0 before the key", keyed(Bytes.some(3, 1), ROW), keyed(zeroFirst, ROW));
    }

    private static void rows() {
        Due.sentence("Terms: the hash of: all bytes of it xor 5C, then the hash of: "
                + "all bytes of it xor 36, then the row");
        int[] sizes = {0, 1, 31, 32, 55, 56, 63, 64, 65, 119, 120, 183, 184, 247, 248, 299, 300};
        for (int keySize : sizes) {
            for (int rowSize : sizes) {
                dueKeyed("key of " + keySize + ", row of " + rowSize,
                        Bytes.some(keySize, 1), Bytes.some(rowSize, 2));
            }
        }
        for (int oneByte : new int[] {0x00, 0x36, 0x5C, 0x6A, 0x80, 0xFF}) {
            dueKeyed("bytes " + oneByte, Bytes.all(64, oneByte), Bytes.all(64, oneByte));
        }
    }

    private static void own() {
        Due.sentence("Promise 13: The input, which is empty then, is the key of its own: how many bytes.");
        Run earlier = face -> { };
        for (int n : new int[] {1, 2, 63, 64, 65, 299, 300}) {
            Run owned = Run.feed(Bytes.some(n, n)).then(Run.due("own() of " + n, n, Face::own))
                    .then(Run.due("count(0)", 0, face -> face.count(0)))
                    .then(Run.due("count(2)", n, face -> face.count(2)));
            Look.asDue("own() of " + n, owned);
            Look.asDue("own() of " + n + ", then fed", owned.then(Run.feed(ROW)));
            Look.same("own() of " + n + " in place of another", owned, earlier.then(owned));
            earlier = State.OWNING.run.then(Face::clear).then(Run.own(Bytes.some(300 / n, 1)));
        }
    }

    private static void ownOfNone() {
        Due.sentence("Promise 13: how many bytes (none)");
        Look.same("own() of none at first", face -> { }, Run.due("own()", 0, Face::own));
        Run without = Run.own(Bytes.some(65, 1)).then(Run.due("own()", 0, Face::own));
        Look.same("own() of none after a key", face -> { }, without);
        Look.same("own() of none, then fed", Run.feed(ROW), without.then(Run.feed(ROW)));
    }

    private static void ownLeavesTheRest() {
        Due.sentence("Promise 13: the key of its own (and nothing else is changed)");
        for (State state : State.values()) {
            int size = state.reached().count(0);
            Look.asDue(state + ": own()", state.run.then(Run.due(state + ": own()", size, Face::own)));
        }
    }

    private static void noKeyAtFirst() {
        Due.sentence("Promise 14: the key of its own (of none at first)");
        Look.asDue("no key, no input", face -> { });
        Look.asDue("no key", Run.feed(ROW));
        Mill mill = new Mill();
        // The published keyed hash of an empty key and an empty row.
        Due.is("keyed(0) of none", 0xB6, mill.keyed(0));
        Due.is("keyed(31) of none", 0xAD, mill.keyed(31));
        Look.asDue("the mill's key is not its own", State.SEEDED.run.then(Run.feed(ROW)));
    }

    private static void bytesOfTheKeyedHash() {
        Due.sentence("Promise 14: Byte i of the keyed hash of the key of its own and the input");
        for (State state : State.values()) {
            Reference reference = state.reached();
            for (int i : new int[] {0, 1, 15, 30, 31}) {
                Look.unchanged("keyed(" + i + ")", state, reference.keyed(i), face -> face.keyed(i));
            }
        }
    }

    private static void beyondTheKeyedHash() {
        Due.sentence("Promise 14: NONE when there is none such.");
        for (State state : State.values()) {
            for (int i : BEYOND) {
                Look.unchanged("keyed(" + i + ")", state, -1, face -> face.keyed(i));
            }
        }
    }

    private static void inputAndKeyStay() {
        Due.sentence("Promise 14: the input, which stays");
        for (int keySize : new int[] {0, 64, 65, 300}) {
            Run before = Run.own(Bytes.some(keySize, 1)).then(Run.feed(ROW));
            Run after = before.then(face -> face.keyed(0)).then(face -> face.keyed(32))
                    .then(Run.due("count(0) after keyed", 28, face -> face.count(0)))
                    .then(Run.due("count(2) after keyed", keySize, face -> face.count(2)));
            Look.same("keyed with a key of " + keySize, before, after);
        }
    }
}
