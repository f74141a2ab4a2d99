import java.math.BigInteger;
import java.util.Arrays;

/**
 * The hash and the keyed hash word for word as the document's "Terms" tell them, the constants
 * worked out from the primes. The other tests lean on the Java library's hashes; this one shows
 * that those are the document's too.
 */
public final class TermsTest {
    private static final int[] FIRST_STATE = fractionsOfRoots(8, 2);
    private static final int[] K = fractionsOfRoots(64, 3);

    public static void main(String[] args) {
        hashes();
        keyedHashes();
        Due.finish();
    }

    private static void hashes() {
        Due.sentence("Terms: THE HASH of a row of bytes");
        for (int n = 0; n <= 300; n++) {
            byte[] row = Bytes.some(n, n);
            byte[] want = hash(row);
            Due.holds("the library's hash of " + n, Arrays.equals(want, Reference.hashOf(row)));
            Mill mill = new Mill();
            Run.feed(row).on(mill);
            for (int i = 0; i < 32; i++) {
                Due.is("hash(" + i + ") of " + n, want[i] & 0xFF, mill.hash(i));
            }
        }
    }

    private static void keyedHashes() {
        Due.sentence("Terms: THE KEYED HASH of a key and a row");
        for (int keySize : new int[] {0, 1, 32, 63, 64, 65, 66, 128, 300}) {
            for (int n : new int[] {0, 1, 55, 56, 64, 300}) {
                byte[] key = Bytes.some(keySize, n);
                byte[] row = Bytes.some(n, keySize);
                byte[] want = keyedHash(key, row);
                String of = " of a key of " + keySize + " and a row of " + n;
                Due.holds("the library's keyed hash" + of,
                        Arrays.equals(want, Reference.keyedHashOf(key, row)));
                Mill mill = new Mill();
                Run.own(key).then(Run.feed(row)).on(mill);
                for (int i = 0; i < 32; i++) {
                    Due.is("keyed(" + i + ")" + of, want[i] & 0xFF, mill.keyed(i));
                }
            }
        }
    }

    private static byte[] keyedHash(byte[] key, byte[] row) {
        byte[] block = Arrays.copyOf(key.length <= 64 ? key : hash(key), 64);
        return hash(Bytes.join(xor(block, 0x5C), hash(Bytes.join(xor(block, 0x36), row))));
    }

    private static byte[] xor(byte[] row, int mask) {
        byte[] result = new byte[row.length];
        for (int i = 0; i < row.length; i++) {
            result[i] = (byte) (row[i] ^ mask);
        }
        return result;
    }

    private static byte[] hash(byte[] row) {
        int[] state = FIRST_STATE.clone();
        byte[] all = withEnd(row);
        for (int at = 0; at < all.length; at += 64) {
            block(state, spread(all, at));
        }
        byte[] result = new byte[32];
        for (int i = 0; i < 32; i++) {
            result[i] = (byte) (state[i / 4] >>> (24 - 8 * (i % 4)));
        }
        return result;
    }

    private static byte[] withEnd(byte[] row) {
        byte[] all = Bytes.join(row, new byte[] {(byte) 0x80});
        while (all.length % 64 != 56) {
            all = Bytes.join(all, new byte[1]);
        }
        byte[] bits = new byte[8];
        for (int i = 0; i < 8; i++) {
            bits[i] = (byte) (8L * row.length >>> (56 - 8 * i));
        }
        return Bytes.join(all, bits);
    }

    private static int[] spread(byte[] all, int at) {
        int[] w = new int[64];
        for (int i = 0; i < 64; i++) {
            w[i / 4] = w[i / 4] << 8 | all[at + i] & 0xFF;
        }
        for (int t = 16; t < 64; t++) {
            int x = w[t - 15];
            int y = w[t - 2];
            int s0 = round(x, 7) ^ round(x, 18) ^ x >>> 3;
            int s1 = round(y, 17) ^ round(y, 19) ^ y >>> 10;
            w[t] = w[t - 16] + s0 + w[t - 7] + s1;
        }
        return w;
    }

    private static void block(int[] state, int[] w) {
        int[] s = state.clone();
        for (int t = 0; t < 64; t++) {
            int t1 = s[7] + (round(s[4], 6) ^ round(s[4], 11) ^ round(s[4], 25))
                    + (s[4] & s[5] ^ ~s[4] & s[6]) + K[t] + w[t];
            int t2 = (round(s[0], 2) ^ round(s[0], 13) ^ round(s[0], 22))
                    + (s[0] & s[1] ^ s[0] & s[2] ^ s[1] & s[2]);
            System.arraycopy(s, 0, s, 1, 7);
            s[4] += t1;
            s[0] = t1 + t2;
        }
        for (int i = 0; i < 8; i++) {
            state[i] += s[i];
        }
    }

    private static int round(int x, int n) {
        return x >>> n | x << (32 - n);
    }

    private static int[] fractionsOfRoots(int n, int power) {
        int[] fractions = primes(n);
        for (int i = 0; i < n; i++) {
            fractions[i] = fractionOfRoot(fractions[i], power);
        }
        return fractions;
    }

    /** The whole root of the number moved up: its lowest 32 bits are the fraction's first. */
    private static int fractionOfRoot(int number, int power) {
        BigInteger wide = BigInteger.valueOf(number).shiftLeft(32 * power);
        BigInteger root = BigInteger.ZERO;
        for (int bit = 40; bit >= 0; bit--) {
            BigInteger more = root.setBit(bit);
            if (more.pow(power).compareTo(wide) <= 0) {
                root = more;
            }
        }
        return root.intValue();
    }

    private static int[] primes(int n) {
        int[] found = new int[n];
        int have = 0;
        for (int number = 2; have < n; number++) {
            if (isPrime(number)) {
                found[have] = number;
                have++;
            }
        }
        return found;
    }

    private static boolean isPrime(int number) {
        for (int part = 2; part < number; part++) {
            if (number % part == 0) {
                return false;
            }
        }
        return true;
    }
}
