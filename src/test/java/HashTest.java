/** Promise 12, and the hash under "Terms". */
public final class HashTest {
    private static final int[] BEYOND =
            {-1, 32, -32, 33, 64, 256, 65536, Integer.MIN_VALUE, Integer.MAX_VALUE};

    public static void main(String[] args) {
        known();
        wordsRunOver();
        rightAndRound();
        fewestZeros();
        howManyBits();
        blocks();
        paddingIsNotTheRow();
        bytesOfTheHash();
        beyondTheHash();
        inputStays();
        Due.finish();
    }

    private static void dueHash(String what, byte[] row, byte[] want) {
        Mill mill = new Mill();
        Run.feed(row).on(mill);
        for (int i = 0; i < 32; i++) {
            Due.is(what + " hash(" + i + ")", want[i] & 0xFF, mill.hash(i));
        }
    }

    private static void dueHash(String what, byte[] row) {
        dueHash(what, row, Reference.hashOf(row));
    }

    private static void known() {
        Due.sentence("Terms: THE HASH of a row of bytes is 32 bytes.");
        dueHash("none", new byte[0], Bytes.ofHex(
                "e3b0c44298fc1c149afbf4c8996fb92427ae41e4649b934ca495991b7852b855"));
        dueHash("abc", Bytes.ofText("abc"), Bytes.ofHex(
                "ba7816bf8f01cfea414140de5dae2223b00361a396177a9cb410ff61f20015ad"));
        // The published example whose length brings a second block.
        dueHash("56 bytes", Bytes.ofText("abcdbcdecdefdefgefghfghighijhijkijkljklmklmnlmnomnopnopq"),
                Bytes.ofHex("248d6a61d20638b8e5c026930c3e6039a33ce45964ff2167f6ecedd419db06c1"));
    }

    private static void wordsRunOver() {
        Due.sentence("Terms: WORDS are ints that run over");
        for (String word : new String[] {"00000000", "00000001", "7fffffff", "80000000", "80000001",
            "ffffffff"}) {
            for (int words : new int[] {1, 13, 14, 16, 75}) {
                dueHash(words + " words " + word, Bytes.ofHex(word.repeat(words)));
            }
        }
    }

    private static void rightAndRound() {
        Due.sentence("Terms: x RIGHT n, 0 coming in; x ROUND n, what goes out comes in at the top");
        for (int bit = 0; bit < 55 * 8; bit++) {
            byte[] row = new byte[55];
            row[bit / 8] = (byte) (0x80 >> bit % 8);
            dueHash("bit " + bit + " alone", row);
        }
    }

    private static void fewestZeros() {
        Due.sentence("Terms: as few bytes 0 as bring all to 56 more than a number of 64");
        for (int block = 0; block < 5; block++) {
            for (int more : new int[] {54, 55, 56, 57, 62, 63}) {
                int n = 64 * block + more;
                if (n <= 300) {
                    dueHash(n + " bytes", Bytes.some(n, n));
                    dueHash(n + " bytes 0", Bytes.all(n, 0));
                    dueHash(n + " bytes FF", Bytes.all(n, 0xFF));
                }
            }
        }
    }

    private static void howManyBits() {
        Due.sentence("Terms: 8 bytes that tell how many bits the row has");
        // 31 bytes have 248 bits, 32 have 256: from there on a second byte tells them.
        for (int n : new int[] {0, 1, 31, 32, 33, 63, 64, 65, 255, 256, 257, 299, 300}) {
            dueHash(n + " bytes", Bytes.some(n, 2));
        }
        for (int n = 0; n < 300; n++) {
            Mill shorter = new Mill();
            Mill longer = new Mill();
            Run.feed(Bytes.all(n, 0)).on(shorter);
            Run.feed(Bytes.all(n + 1, 0)).on(longer);
            boolean same = true;
            for (int i = 0; i < 32; i++) {
                same &= shorter.hash(i) == longer.hash(i);
            }
            Due.holds(n + " and " + (n + 1) + " bytes 0 have other hashes", !same);
        }
    }

    private static void blocks() {
        Due.sentence("Terms: Each 64 bytes are a BLOCK");
        for (int n = 0; n <= 300; n++) {
            dueHash(n + " bytes", Bytes.some(n, 3));
        }
    }

    private static void paddingIsNotTheRow() {
        Due.sentence("Terms: Behind the bytes come a byte 80");
        for (int n : new int[] {0, 1, 54, 55, 56, 63, 64}) {
            byte[] row = Bytes.some(n, 4);
            dueHash(n + " bytes and 80", Bytes.join(row, Bytes.ofHex("80")));
            dueHash(n + " bytes and 80 00", Bytes.join(row, Bytes.ofHex("8000")));
        }
        // What a longer row left behind must not come into a shorter one.
        Mill mill = new Mill();
        for (int n : new int[] {300, 1, 120, 0, 56, 55}) {
            byte[] row = Bytes.all(n, 0xFF);
            Run.feed(row).on(mill);
            Due.is(n + " bytes after others, hash(0)", Reference.hashOf(row)[0] & 0xFF, mill.hash(0));
            mill.clear();
        }
    }

    private static void bytesOfTheHash() {
        Due.sentence("Promise 12: Byte i of the hash of the input");
        for (State state : State.values()) {
            Reference reference = state.reached();
            for (int i : new int[] {0, 1, 15, 30, 31}) {
                Look.unchanged("hash(" + i + ")", state, reference.hash(i), face -> face.hash(i));
            }
        }
    }

    private static void beyondTheHash() {
        Due.sentence("Promise 12: NONE when there is none such.");
        for (State state : State.values()) {
            for (int i : BEYOND) {
                Look.unchanged("hash(" + i + ")", state, -1, face -> face.hash(i));
            }
        }
    }

    private static void inputStays() {
        Due.sentence("Promise 12: the input, which stays");
        Mill mill = new Mill();
        Run.feed(Bytes.ofText("ab")).on(mill);
        mill.hash(0);
        Due.is("count(0) after hash", 2, mill.count(0));
        Due.is("feed behind it", 3, mill.feed('c', 1));
        Due.is("hash(0) of abc", 0xBA, mill.hash(0));
        Due.is("hash(31) of abc", 0xAD, mill.hash(31));
        mill.clear();
        Due.is("hash(0) of none", 0xE3, mill.hash(0));
        Due.is("hash(31) of none", 0x55, mill.hash(31));
    }
}
