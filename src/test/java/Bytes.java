import java.util.Arrays;
import java.util.Random;

/** Rows of bytes for the tests. */
final class Bytes {
    private Bytes() {
    }

    static byte[] ofHex(String hex) {
        byte[] bytes = new byte[hex.length() / 2];
        for (int i = 0; i < bytes.length; i++) {
            bytes[i] = (byte) Integer.parseInt(hex.substring(2 * i, 2 * i + 2), 16);
        }
        return bytes;
    }

    static byte[] ofText(String text) {
        byte[] bytes = new byte[text.length()];
        for (int i = 0; i < bytes.length; i++) {
            bytes[i] = (byte) text.charAt(i);
        }
        return bytes;
    }

    static byte[] some(int n, long start) {
        byte[] bytes = new byte[n];
        new Random(start).nextBytes(bytes);
        return bytes;
    }

    static byte[] all(int n, int oneByte) {
        byte[] bytes = new byte[n];
        Arrays.fill(bytes, (byte) oneByte);
        return bytes;
    }

    static byte[] join(byte[] first, byte[] second) {
        byte[] both = Arrays.copyOf(first, first.length + second.length);
        System.arraycopy(second, 0, both, first.length, second.length);
        return both;
    }
}
