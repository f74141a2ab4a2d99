import java.util.Random;

/** Rows of bytes for the tests, and ways to hand them to a mill and to read them from it. */
final class Bytes {
    private Bytes() {
    }

    static byte[] ofHex(String hex) {
        byte[] bytes = new byte[hex.length() / 2];
        for (int i = 0; i < bytes.length; i++) {
            bytes[i] = (byte) Integer.parseInt(hex.substring(2 * i, 2 * i + 2), 16);
        }
        return bytes;
    }

    static byte[] ofText(String text) {
        byte[] bytes = new byte[text.length()];
        for (int i = 0; i < bytes.length; i++) {
            bytes[i] = (byte) text.charAt(i);
        }
        return bytes;
    }

    static byte[] some(int n, long start) {
        byte[] bytes = new byte[n];
        new Random(start).nextBytes(bytes);
        return bytes;
    }

    /** Feeds the bytes eight at a time, the rest in one call. */
    static void feed(SeedMill mill, byte[] bytes) {
        int before = mill.count(0);
        for (int at = 0; at < bytes.length; at += 8) {
            int n = Math.min(8, bytes.length - at);
            long number = 0;
            for (int i = 0; i < n; i++) {
                number = number << 8 | bytes[at + i] & 0xFF;
            }
            Due.is("feed", before + at + n, mill.feed(number, n));
        }
    }

    static void dueHash(String what, byte[] want, SeedMill mill) {
        for (int i = 0; i < 32; i++) {
            Due.is(what + " hash(" + i + ")", want[i] & 0xFF, mill.hash(i));
        }
        dueNoneBeyond(what + " hash", mill.hash(-1), mill.hash(32));
        dueNoneBeyond(what + " hash", mill.hash(Integer.MIN_VALUE), mill.hash(Integer.MAX_VALUE));
    }

    static void dueKeyed(String what, byte[] want, SeedMill mill) {
        for (int i = 0; i < 32; i++) {
            Due.is(what + " keyed(" + i + ")", want[i] & 0xFF, mill.keyed(i));
        }
        dueNoneBeyond(what + " keyed", mill.keyed(-1), mill.keyed(32));
        dueNoneBeyond(what + " keyed", mill.keyed(Integer.MIN_VALUE), mill.keyed(Integer.MAX_VALUE));
    }

    static void dueOut(String what, byte[] want, SeedMill mill) {
        Due.is(what + " count(1)", want.length, mill.count(1));
        for (int i = 0; i < want.length; i++) {
            Due.is(what + " out(" + i + ")", want[i] & 0xFF, mill.out(i));
        }
        dueNoneBeyond(what + " out", mill.out(-1), mill.out(want.length));
        dueNoneBeyond(what + " out", mill.out(Integer.MIN_VALUE), mill.out(Integer.MAX_VALUE));
    }

    static void dueState(String what, byte[] key, byte[] value, SeedMill mill) {
        for (int i = 0; i < 32; i++) {
            Due.is(what + " state(0, " + i + ")", key[i] & 0xFF, mill.state(0, i));
            Due.is(what + " state(1, " + i + ")", value[i] & 0xFF, mill.state(1, i));
        }
        for (int which = 0; which < 2; which++) {
            dueNoneBeyond(what + " state", mill.state(which, -1), mill.state(which, 32));
            dueNoneBeyond(what + " state",
                    mill.state(which, Integer.MIN_VALUE), mill.state(which, Integer.MAX_VALUE));
        }
        dueNoneBeyond(what + " state of none", mill.state(-1, 0), mill.state(2, 0));
    }

    private static void dueNoneBeyond(String what, int below, int above) {
        Due.is(what + " below the first byte", SeedMill.NONE, below);
        Due.is(what + " behind the last byte", SeedMill.NONE, above);
    }
}
