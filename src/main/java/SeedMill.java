import java.util.Arrays;

/** Random bytes from a seed by keyed hashes; the hash and the keyed hash by themselves. */
public final class SeedMill {
    public static final int NONE = -1;

    private static final int INPUT_LIMIT = 300;
    private static final int DRAW_LIMIT = 400;
    private static final int FEED_LIMIT = 8;
    private static final int INTERVAL_LIMIT = 1000;
    private static final int FIRST_INTERVAL = 100;
    private static final int HASH_BYTES = 32;
    private static final int BLOCK_BYTES = 64;
    /** The longest row that is hashed: a padded key, a value, one byte more and a full input. */
    private static final int HASHED_LIMIT = BLOCK_BYTES + HASH_BYTES + 1 + INPUT_LIMIT;
    /** Room for that row, the byte 80 and the 8 bytes of its length, up to a whole block. */
    private static final int MESSAGE_LIMIT =
            (HASHED_LIMIT + 1 + 8 + BLOCK_BYTES - 1) / BLOCK_BYTES * BLOCK_BYTES;

    private final Row input = new Row(INPUT_LIMIT);
    private final Row ownKey = new Row(INPUT_LIMIT);
    private final Row drawn = new Row(DRAW_LIMIT);
    private final Row key = new Row(HASH_BYTES);
    private final Row value = new Row(HASH_BYTES);
    /** The value that the present one is the keyed hash of, so that check can make it again. */
    private final Row formerValue = new Row(HASH_BYTES);
    private final Row answer = new Row(HASH_BYTES);
    private final Hasher hasher = new Hasher();
    private final KeyedHasher keyedHasher = new KeyedHasher();
    /** 0 as long as it is not seeded. */
    private int drawCounter = 0;
    private int drawInterval = FIRST_INTERVAL;
    private int drawsInAll = 0;

    public SeedMill() {
    }

    public int feed(long bytes, int n) {
        if (n < 1 || n > FEED_LIMIT || input.size() + n > INPUT_LIMIT) {
            return NONE;
        }
        for (int place = n - 1; place >= 0; place--) {
            input.put((int) (bytes >>> (8 * place)) & 0xFF);
        }
        return input.size();
    }

    public int clear() {
        int had = input.size();
        input.empty();
        return had;
    }

    public int seed() {
        if (input.size() == 0) {
            return 0;
        }
        key.fill(0);
        value.fill(1);
        stir();
        input.empty();
        drawCounter = 1;
        return 1;
    }

    public int reseed() {
        if (input.size() == 0 || !isSeeded()) {
            return 0;
        }
        stir();
        input.empty();
        drawCounter = 1;
        return 1;
    }

    public int draw(int n) {
        if (!isSeeded()) {
            return 1;
        }
        if (n < 1 || n > DRAW_LIMIT) {
            return 2;
        }
        if (drawCounter > drawInterval) {
            return 3;
        }
        if (input.size() > 0) {
            stir();
        }
        fillDrawn(n);
        stir();
        input.empty();
        drawCounter++;
        drawsInAll++;
        return 0;
    }

    public int interval(int n) {
        if (n < 1 || n > INTERVAL_LIMIT) {
            return 0;
        }
        drawInterval = n;
        return 1;
    }

    public int out(int i) {
        return drawn.at(i);
    }

    public int counter() {
        return drawCounter;
    }

    public int state(int which, int i) {
        if (!isSeeded()) {
            return NONE;
        }
        switch (which) {
            case 0:
                return key.at(i);
            case 1:
                return value.at(i);
            default:
                return NONE;
        }
    }

    public int forget() {
        if (!isSeeded()) {
            return 0;
        }
        drawCounter = 0;
        key.fill(0);
        value.fill(0);
        formerValue.fill(0);
        drawn.fill(0);
        drawn.empty();
        return 1;
    }

    public int hash(int i) {
        hasher.begin();
        hasher.add(input);
        hasher.end(answer);
        return answer.at(i);
    }

    public int own() {
        ownKey.empty();
        ownKey.append(input, input.size());
        input.empty();
        return ownKey.size();
    }

    public int keyed(int i) {
        keyedHasher.begin(ownKey);
        keyedHasher.add(input);
        keyedHasher.end(answer);
        return answer.at(i);
    }

    public int count(int what) {
        switch (what) {
            case 0:
                return input.size();
            case 1:
                return drawn.size();
            case 2:
                return ownKey.size();
            case 3:
                return drawsInAll;
            case 4:
                return drawInterval;
            default:
                return NONE;
        }
    }

    public int check() {
        if (!isSeeded()) {
            return 1;
        }
        keyedHasher.begin(key);
        keyedHasher.add(formerValue);
        keyedHasher.end(answer);
        return answer.sameAs(value) ? 1 : 0;
    }

    private boolean isSeeded() {
        return drawCounter > 0;
    }

    /** Stirs with the input; an empty one leaves out the second turn. */
    private void stir() {
        int turns = input.size() == 0 ? 1 : 2;
        for (int turn = 0; turn < turns; turn++) {
            keyedHasher.begin(key);
            keyedHasher.add(value);
            keyedHasher.addByte(turn);
            keyedHasher.add(input);
            keyedHasher.end(key);
            renewValue();
        }
    }

    private void renewValue() {
        formerValue.empty();
        formerValue.append(value, HASH_BYTES);
        keyedHasher.begin(key);
        keyedHasher.add(value);
        keyedHasher.end(value);
    }

    private void fillDrawn(int n) {
        drawn.empty();
        for (int done = 0; done < n; done += HASH_BYTES) {
            renewValue();
            drawn.append(value, Math.min(HASH_BYTES, n - done));
        }
    }

    /** Bytes, each 0 to 255, up to a limit; what would go over it is left out. */
    private static final class Row {
        private final int[] bytes;
        private int used = 0;

        Row(int limit) {
            bytes = new int[limit];
        }

        int size() {
            return used;
        }

        void empty() {
            used = 0;
        }

        void put(int oneByte) {
            if (used < bytes.length) {
                bytes[used] = oneByte;
                used++;
            }
        }

        void fill(int oneByte) {
            Arrays.fill(bytes, oneByte);
            used = bytes.length;
        }

        void append(Row other, int n) {
            int end = Math.min(n, other.used);
            for (int i = 0; i < end; i++) {
                put(other.bytes[i]);
            }
        }

        void appendXor(Row other, int mask) {
            for (int i = 0; i < other.used; i++) {
                put(other.bytes[i] ^ mask);
            }
        }

        /** The word's bytes, the highest first. */
        void putWord(int word) {
            for (int shift = 24; shift >= 0; shift -= 8) {
                put((word >>> shift) & 0xFF);
            }
        }

        int at(int i) {
            return i >= 0 && i < used ? bytes[i] : NONE;
        }

        /** The word whose highest byte is at i; four bytes must be there. */
        int wordAt(int i) {
            return at(i) << 24 | at(i + 1) << 16 | at(i + 2) << 8 | at(i + 3);
        }

        boolean sameAs(Row other) {
            if (used != other.used) {
                return false;
            }
            for (int i = 0; i < used; i++) {
                if (bytes[i] != other.bytes[i]) {
                    return false;
                }
            }
            return true;
        }
    }

    /** The hash: begin, add what is to be hashed, end. */
    private static final class Hasher {
        private static final int ROUNDS = 64;
        private static final int BLOCK_WORDS = 16;
        private static final int STATE_WORDS = 8;
        /** The square roots' fractions. */
        private static final int[] FIRST_STATE = {
            0x6a09e667, 0xbb67ae85, 0x3c6ef372, 0xa54ff53a,
            0x510e527f, 0x9b05688c, 0x1f83d9ab, 0x5be0cd19
        };
        /** The cube roots' fractions. */
        private static final int[] K = {
            0x428a2f98, 0x71374491, 0xb5c0fbcf, 0xe9b5dba5,
            0x3956c25b, 0x59f111f1, 0x923f82a4, 0xab1c5ed5,
            0xd807aa98, 0x12835b01, 0x243185be, 0x550c7dc3,
            0x72be5d74, 0x80deb1fe, 0x9bdc06a7, 0xc19bf174,
            0xe49b69c1, 0xefbe4786, 0x0fc19dc6, 0x240ca1cc,
            0x2de92c6f, 0x4a7484aa, 0x5cb0a9dc, 0x76f988da,
            0x983e5152, 0xa831c66d, 0xb00327c8, 0xbf597fc7,
            0xc6e00bf3, 0xd5a79147, 0x06ca6351, 0x14292967,
            0x27b70a85, 0x2e1b2138, 0x4d2c6dfc, 0x53380d13,
            0x650a7354, 0x766a0abb, 0x81c2c92e, 0x92722c85,
            0xa2bfe8a1, 0xa81a664b, 0xc24b8b70, 0xc76c51a3,
            0xd192e819, 0xd6990624, 0xf40e3585, 0x106aa070,
            0x19a4c116, 0x1e376c08, 0x2748774c, 0x34b0bcb5,
            0x391c0cb3, 0x4ed8aa4a, 0x5b9cca4f, 0x682e6ff3,
            0x748f82ee, 0x78a5636f, 0x84c87814, 0x8cc70208,
            0x90befffa, 0xa4506ceb, 0xbef9a3f7, 0xc67178f2
        };

        private final Row message = new Row(MESSAGE_LIMIT);
        private final int[] w = new int[ROUNDS];
        private final int[] words = new int[STATE_WORDS];

        void begin() {
            message.empty();
        }

        void add(Row row) {
            message.append(row, row.size());
        }

        void addXor(Row row, int mask) {
            message.appendXor(row, mask);
        }

        void addByte(int oneByte) {
            message.put(oneByte);
        }

        void end(Row result) {
            pad();
            System.arraycopy(FIRST_STATE, 0, words, 0, STATE_WORDS);
            for (int start = 0; start < message.size(); start += BLOCK_BYTES) {
                spread(start);
                mix();
            }
            result.empty();
            for (int i = 0; i < STATE_WORDS; i++) {
                result.putWord(words[i]);
            }
        }

        private void pad() {
            int bits = message.size() * 8;
            message.put(0x80);
            int zeros = Math.floorMod(BLOCK_BYTES - 8 - message.size(), BLOCK_BYTES);
            for (int i = 0; i < zeros; i++) {
                message.put(0);
            }
            // The limit of a message keeps the upper four of the eight bytes at 0.
            message.putWord(0);
            message.putWord(bits);
        }

        private void spread(int start) {
            for (int t = 0; t < BLOCK_WORDS; t++) {
                w[t] = message.wordAt(start + 4 * t);
            }
            for (int t = BLOCK_WORDS; t < ROUNDS; t++) {
                int x = w[t - 15];
                int y = w[t - 2];
                int s0 = Integer.rotateRight(x, 7) ^ Integer.rotateRight(x, 18) ^ (x >>> 3);
                int s1 = Integer.rotateRight(y, 17) ^ Integer.rotateRight(y, 19) ^ (y >>> 10);
                w[t] = w[t - 16] + s0 + w[t - 7] + s1;
            }
        }

        private void mix() {
            int a = words[0];
            int b = words[1];
            int c = words[2];
            int d = words[3];
            int e = words[4];
            int f = words[5];
            int g = words[6];
            int h = words[7];
            for (int t = 0; t < ROUNDS; t++) {
                int t1 = h + highSum(e, 6, 11, 25) + ((e & f) ^ (~e & g)) + K[t] + w[t];
                int t2 = highSum(a, 2, 13, 22) + ((a & b) ^ (a & c) ^ (b & c));
                h = g;
                g = f;
                f = e;
                e = d + t1;
                d = c;
                c = b;
                b = a;
                a = t1 + t2;
            }
            words[0] += a;
            words[1] += b;
            words[2] += c;
            words[3] += d;
            words[4] += e;
            words[5] += f;
            words[6] += g;
            words[7] += h;
        }

        private static int highSum(int x, int first, int second, int third) {
            return Integer.rotateRight(x, first) ^ Integer.rotateRight(x, second)
                    ^ Integer.rotateRight(x, third);
        }
    }

    /** The keyed hash: begin with the key, add the row, end; the result may be the key's own row. */
    private static final class KeyedHasher {
        private static final int OUTER_MASK = 0x5C;
        private static final int INNER_MASK = 0x36;

        private final Hasher hasher = new Hasher();
        private final Row blockKey = new Row(BLOCK_BYTES);
        private final Row innerHash = new Row(HASH_BYTES);

        void begin(Row key) {
            blockKey.empty();
            if (key.size() > BLOCK_BYTES) {
                hasher.begin();
                hasher.add(key);
                hasher.end(blockKey);
            } else {
                blockKey.append(key, key.size());
            }
            for (int i = blockKey.size(); i < BLOCK_BYTES; i++) {
                blockKey.put(0);
            }
            hasher.begin();
            hasher.addXor(blockKey, INNER_MASK);
        }

        void add(Row row) {
            hasher.add(row);
        }

        void addByte(int oneByte) {
            hasher.addByte(oneByte);
        }

        void end(Row result) {
            hasher.end(innerHash);
            hasher.begin();
            hasher.addXor(blockKey, OUTER_MASK);
            hasher.add(innerHash);
            hasher.end(result);
        }
    }
}
