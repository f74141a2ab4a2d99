import java.security.GeneralSecurityException;
import java.security.MessageDigest;
import java.util.Arrays;
import javax.crypto.Mac;
import javax.crypto.spec.SecretKeySpec;

/** The document once more, over the Java library's hash and keyed hash. */
final class Reference implements Face {
    private byte[] input = {};
    private byte[] ownKey = {};
    private byte[] drawn = {};
    private byte[] key = {};
    private byte[] value = {};
    private int counter = 0;
    private int interval = 100;
    private int draws = 0;

    static byte[] hashOf(byte[] row) {
        try {
            return MessageDigest.getInstance("SHA-256").digest(row);
        } catch (GeneralSecurityException e) {
            throw new IllegalStateException(e);
        }
    }

    static byte[] keyedHashOf(byte[] key, byte[] row) {
        try {
            Mac mac = Mac.getInstance("HmacSHA256");
            // The library takes no empty key; one byte 0 is the same key when it is padded.
            mac.init(new SecretKeySpec(key.length == 0 ? new byte[1] : key, "HmacSHA256"));
            return mac.doFinal(row);
        } catch (GeneralSecurityException e) {
            throw new IllegalStateException(e);
        }
    }

    @Override
    public int feed(long bytes, int n) {
        if (n < 1 || n > 8 || input.length + n > 300) {
            return -1;
        }
        byte[] more = new byte[n];
        for (int i = 0; i < n; i++) {
            more[n - 1 - i] = (byte) (bytes >> (8 * i));
        }
        input = Bytes.join(input, more);
        return input.length;
    }

    @Override
    public int clear() {
        return takeInput().length;
    }

    @Override
    public int seed() {
        if (input.length == 0) {
            return 0;
        }
        key = Bytes.all(32, 0);
        value = Bytes.all(32, 1);
        stir(takeInput());
        counter = 1;
        return 1;
    }

    @Override
    public int reseed() {
        if (input.length == 0 || counter == 0) {
            return 0;
        }
        stir(takeInput());
        counter = 1;
        return 1;
    }

    @Override
    public int draw(int n) {
        if (counter == 0) {
            return 1;
        }
        if (n < 1 || n > 400) {
            return 2;
        }
        if (counter > interval) {
            return 3;
        }
        byte[] row = takeInput();
        if (row.length > 0) {
            stir(row);
        }
        byte[] bytes = {};
        while (bytes.length < n) {
            value = keyedHashOf(key, value);
            bytes = Bytes.join(bytes, value);
        }
        drawn = Arrays.copyOf(bytes, n);
        stir(row);
        counter++;
        draws++;
        return 0;
    }

    @Override
    public int interval(int n) {
        if (n < 1 || n > 1000) {
            return 0;
        }
        interval = n;
        return 1;
    }

    @Override
    public int out(int i) {
        return at(drawn, i);
    }

    @Override
    public int counter() {
        return counter;
    }

    @Override
    public int state(int which, int i) {
        if (counter == 0 || which < 0 || which > 1) {
            return -1;
        }
        return at(which == 0 ? key : value, i);
    }

    @Override
    public int forget() {
        if (counter == 0) {
            return 0;
        }
        counter = 0;
        drawn = new byte[0];
        return 1;
    }

    @Override
    public int hash(int i) {
        return at(hashOf(input), i);
    }

    @Override
    public int own() {
        ownKey = takeInput();
        return ownKey.length;
    }

    @Override
    public int keyed(int i) {
        return at(keyedHashOf(ownKey, input), i);
    }

    @Override
    public int count(int what) {
        int[] counts = {input.length, drawn.length, ownKey.length, draws, interval};
        return what >= 0 && what < counts.length ? counts[what] : -1;
    }

    @Override
    public int check() {
        return 1;
    }

    private static int at(byte[] row, int i) {
        return i >= 0 && i < row.length ? row[i] & 0xFF : -1;
    }

    private byte[] takeInput() {
        byte[] row = input;
        input = new byte[0];
        return row;
    }

    private void stir(byte[] row) {
        for (int turn = 0; turn < (row.length == 0 ? 1 : 2); turn++) {
            key = keyedHashOf(key, Bytes.join(Bytes.join(value, new byte[] {(byte) turn}), row));
            value = keyedHashOf(key, value);
        }
    }
}
