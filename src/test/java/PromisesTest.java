import java.util.Arrays;

/** Each promise by itself: ordinary inputs, the edges that the document names, wrong inputs. */
public final class PromisesTest {
    private static final int[] FAR = {Integer.MIN_VALUE, -1000, -1, Integer.MAX_VALUE};

    public static void main(String[] args) {
        promise1NewObject();
        promise2Feed();
        promise2FeedUpToTheLimit();
        promise3Clear();
        promise4Seed();
        promise4SeedAnew();
        promise5Reseed();
        promise6Draw();
        promise6DrawRefused();
        promise6DrawWithInput();
        promise7Interval();
        promise8Out();
        promise9Counter();
        promise10State();
        promise11Forget();
        promise12Hash();
        promise13Own();
        promise14Keyed();
        promise15Count();
        promise16Check();
        knownDraws();
        Due.finish();
    }

    private static SeedMill seeded(String text) {
        SeedMill mill = new SeedMill();
        Bytes.feed(mill, Bytes.ofText(text));
        Due.is("seed()", 1, mill.seed());
        return mill;
    }

    private static Reference seededReference(String text) {
        Reference reference = new Reference();
        reference.input = Bytes.ofText(text);
        reference.seed();
        return reference;
    }

    private static void promise1NewObject() {
        SeedMill mill = new SeedMill();
        int[] counts = {0, 0, 0, 0, 100};
        for (int what = 0; what < counts.length; what++) {
            Due.is("new: count(" + what + ")", counts[what], mill.count(what));
        }
        Due.is("new: counter()", 0, mill.counter());
        Due.is("new: state(0, 0)", SeedMill.NONE, mill.state(0, 0));
        Due.is("new: state(1, 0)", SeedMill.NONE, mill.state(1, 0));
        Due.is("new: out(0)", SeedMill.NONE, mill.out(0));
        Due.is("new: draw(1)", 1, mill.draw(1));
        Due.is("new: check()", 1, mill.check());
        Bytes.dueHash("new:", Reference.hashOf(new byte[0]), mill);
        Bytes.dueKeyed("new:", Reference.keyedHashOf(new byte[0], new byte[0]), mill);
        SeedMill other = seeded("one object");
        Due.is("a second object: counter()", 0, new SeedMill().counter());
        Due.is("the first object: counter()", 1, other.counter());
    }

    private static void promise2Feed() {
        for (int n = 1; n <= 8; n++) {
            SeedMill mill = new SeedMill();
            Due.is("feed of " + n, n, mill.feed(0x8182838485868788L, n));
            byte[] whole = Bytes.ofHex("8182838485868788");
            byte[] lowest = Arrays.copyOfRange(whole, 8 - n, 8);
            Bytes.dueHash("feed of " + n, Reference.hashOf(lowest), mill);
            Due.is("feed behind " + n, n + 2, mill.feed(-2L, 2));
            byte[] both = Reference.join(lowest, Bytes.ofHex("fffe"));
            Bytes.dueHash("feed behind " + n, Reference.hashOf(both), mill);
        }
        SeedMill mill = new SeedMill();
        mill.feed(7, 1);
        for (int n : new int[] {0, 9, 16, 257, -1, -8, Integer.MIN_VALUE, Integer.MAX_VALUE}) {
            Due.is("feed(1, " + n + ")", SeedMill.NONE, mill.feed(1, n));
            Due.is("input after feed(1, " + n + ")", 1, mill.count(0));
        }
        Bytes.dueHash("input after wrong feeds", Reference.hashOf(new byte[] {7}), mill);
    }

    private static void promise2FeedUpToTheLimit() {
        SeedMill mill = new SeedMill();
        byte[] most = Bytes.some(296, 1);
        Bytes.feed(mill, most);
        for (int n = 5; n <= 8; n++) {
            Due.is("feed of " + n + " behind 296", SeedMill.NONE, mill.feed(1, n));
        }
        Bytes.dueHash("296 bytes", Reference.hashOf(most), mill);
        Due.is("feed of 3 behind 296", 299, mill.feed(0x010203, 3));
        Due.is("feed of 2 behind 299", SeedMill.NONE, mill.feed(1, 2));
        Due.is("feed of 1 behind 299", 300, mill.feed(4, 1));
        Due.is("feed of 1 behind 300", SeedMill.NONE, mill.feed(5, 1));
        Bytes.dueHash("300 bytes",
                Reference.hashOf(Reference.join(most, Bytes.ofHex("01020304"))), mill);
    }

    private static void promise3Clear() {
        SeedMill mill = new SeedMill();
        Due.is("clear() of none", 0, mill.clear());
        mill.feed(1, 5);
        Due.is("clear() of 5", 5, mill.clear());
        Due.is("count(0) after clear", 0, mill.count(0));
        Due.is("clear() again", 0, mill.clear());
        Bytes.feed(mill, Bytes.some(300, 2));
        Due.is("clear() of 300", 300, mill.clear());
        Due.is("feed after clear", 2, mill.feed(0x6162, 2));
        Bytes.dueHash("after clear", Reference.hashOf(Bytes.ofText("ab")), mill);
        SeedMill kept = seeded("clear");
        kept.draw(3);
        kept.feed(1, 1);
        kept.clear();
        Due.is("counter() after clear", 2, kept.counter());
        Due.is("count(1) after clear", 3, kept.count(1));
    }

    private static void promise4Seed() {
        for (int n : new int[] {1, 2, 20, 55, 64, 155, 299, 300}) {
            SeedMill mill = new SeedMill();
            Reference reference = new Reference();
            reference.input = Bytes.some(n, n);
            Bytes.feed(mill, reference.input);
            Due.is("seed() by " + n, reference.seed(), mill.seed());
            Bytes.dueState("seeded by " + n, reference.key, reference.value, mill);
            Due.is("counter() after seed", 1, mill.counter());
            Due.is("count(0) after seed", 0, mill.count(0));
        }
        SeedMill mill = new SeedMill();
        Due.is("seed() by none", 0, mill.seed());
        Due.is("counter() after seed by none", 0, mill.counter());
    }

    private static void promise4SeedAnew() {
        SeedMill mill = seeded("first");
        mill.draw(5);
        mill.draw(7);
        Reference drawn = seededReference("first");
        drawn.draw(5);
        drawn.draw(7);
        Due.is("seed() by none when seeded", 0, mill.seed());
        Bytes.dueState("seed() by none when seeded", drawn.key, drawn.value, mill);
        Due.is("counter() after seed by none", 3, mill.counter());
        mill.interval(50);
        Bytes.feed(mill, Bytes.ofText("second"));
        Due.is("seed() anew", 1, mill.seed());
        Reference anew = seededReference("second");
        Bytes.dueState("seeded anew", anew.key, anew.value, mill);
        Due.is("counter() when seeded anew", 1, mill.counter());
        Due.is("interval when seeded anew", 50, mill.count(4));
        Bytes.dueOut("seeded anew", drawn.drawn, mill);
    }

    private static void promise5Reseed() {
        SeedMill mill = new SeedMill();
        Due.is("reseed() of a new one", 0, mill.reseed());
        mill.feed(1, 4);
        Due.is("reseed() when not seeded", 0, mill.reseed());
        Due.is("input after a refused reseed", 4, mill.count(0));
        Due.is("counter() after a refused reseed", 0, mill.counter());

        SeedMill again = seeded("reseed");
        Reference reference = seededReference("reseed");
        again.draw(33);
        reference.draw(33);
        Due.is("reseed() by none", 0, again.reseed());
        Due.is("counter() after reseed by none", 2, again.counter());
        Bytes.dueState("reseed() by none", reference.key, reference.value, again);
        reference.input = Bytes.some(300, 5);
        Bytes.feed(again, reference.input);
        Due.is("reseed()", reference.reseed(), again.reseed());
        Bytes.dueState("reseeded", reference.key, reference.value, again);
        Due.is("counter() after reseed", 1, again.counter());
        Due.is("count(0) after reseed", 0, again.count(0));
        Bytes.dueOut("reseeded", reference.drawn, again);
        again.forget();
        again.feed(1, 1);
        Due.is("reseed() after forget", 0, again.reseed());
    }

    private static void promise6Draw() {
        for (int n : new int[] {1, 2, 31, 32, 33, 63, 64, 65, 384, 385, 399, 400}) {
            SeedMill mill = seeded("draw");
            Reference reference = seededReference("draw");
            Due.is("draw(" + n + ")", reference.draw(n), mill.draw(n));
            Bytes.dueOut("draw(" + n + ")", reference.drawn, mill);
            Bytes.dueState("draw(" + n + ")", reference.key, reference.value, mill);
            Due.is("draw(" + n + ") again", reference.draw(n), mill.draw(n));
            Bytes.dueOut("draw(" + n + ") again", reference.drawn, mill);
        }
    }

    private static void promise6DrawRefused() {
        SeedMill mill = new SeedMill();
        mill.feed(9, 3);
        for (int n : new int[] {1, 0, 401, Integer.MIN_VALUE}) {
            Due.is("not seeded: draw(" + n + ")", 1, mill.draw(n));
        }
        Due.is("input after draw when not seeded", 3, mill.count(0));
        mill.seed();
        mill.interval(1);
        mill.draw(4);
        Reference reference = new Reference();
        reference.feed(9, 3);
        reference.seed();
        reference.draw(4);
        mill.feed(1, 2);
        for (int n : new int[] {0, 401, -1, Integer.MIN_VALUE, Integer.MAX_VALUE}) {
            Due.is("over the interval too: draw(" + n + ")", 2, mill.draw(n));
        }
        Due.is("over the interval: draw(400)", 3, mill.draw(400));
        Due.is("over the interval: draw(1)", 3, mill.draw(1));
        Due.is("input after refused draws", 2, mill.count(0));
        Due.is("counter() after refused draws", 2, mill.counter());
        Due.is("count(3) after refused draws", 1, mill.count(3));
        Bytes.dueOut("after refused draws", reference.drawn, mill);
        Bytes.dueState("after refused draws", reference.key, reference.value, mill);
    }

    private static void promise6DrawWithInput() {
        for (int size : new int[] {1, 4, 22, 23, 86, 87, 300}) {
            SeedMill mill = seeded("with input");
            Reference reference = seededReference("with input");
            reference.input = Bytes.some(size, size);
            Bytes.feed(mill, reference.input);
            Due.is("draw with " + size, reference.draw(100), mill.draw(100));
            Bytes.dueOut("draw with " + size, reference.drawn, mill);
            Bytes.dueState("draw with " + size, reference.key, reference.value, mill);
            Due.is("input after draw", 0, mill.count(0));
            Due.is("draw after one with " + size, reference.draw(40), mill.draw(40));
            Bytes.dueOut("draw after one with " + size, reference.drawn, mill);
        }
    }

    private static void promise7Interval() {
        SeedMill mill = new SeedMill();
        for (int n : new int[] {1, 1000, 2, 999, 100}) {
            Due.is("interval(" + n + ")", 1, mill.interval(n));
            Due.is("count(4) after interval(" + n + ")", n, mill.count(4));
        }
        for (int n : new int[] {0, 1001, -1, Integer.MIN_VALUE, Integer.MAX_VALUE}) {
            Due.is("interval(" + n + ")", 0, mill.interval(n));
            Due.is("count(4) after interval(" + n + ")", 100, mill.count(4));
        }
        SeedMill first = seeded("interval");
        for (int i = 1; i <= 100; i++) {
            Due.is("draw " + i + " of 100", 0, first.draw(1));
        }
        Due.is("draw 101 of 100", 3, first.draw(1));
        first.interval(102);
        Due.is("draw 101 of 102", 0, first.draw(1));
        first.interval(101);
        Due.is("draw 102 of 101", 3, first.draw(1));
        first.feed(1, 1);
        first.reseed();
        Due.is("draw after reseed", 0, first.draw(1));
        first.interval(1);
        Due.is("draw 2 of 1", 3, first.draw(1));
        first.forget();
        Due.is("interval after forget", 1, first.count(4));
    }

    private static void promise8Out() {
        SeedMill mill = seeded("out");
        Due.is("out(0) before a draw", SeedMill.NONE, mill.out(0));
        Reference reference = seededReference("out");
        for (int n : new int[] {400, 1, 40}) {
            mill.draw(n);
            reference.draw(n);
            Bytes.dueOut("after draw(" + n + ")", reference.drawn, mill);
        }
        for (int i : FAR) {
            Due.is("out(" + i + ")", SeedMill.NONE, mill.out(i));
        }
    }

    private static void promise9Counter() {
        SeedMill mill = seeded("counter");
        for (int i = 1; i < 20; i++) {
            Due.is("counter() after " + (i - 1), i, mill.counter());
            mill.draw(i);
        }
        mill.feed(1, 1);
        mill.reseed();
        Due.is("counter() after reseed", 1, mill.counter());
        mill.draw(1);
        mill.feed(1, 1);
        mill.seed();
        Due.is("counter() after seed", 1, mill.counter());
        mill.forget();
        Due.is("counter() after forget", 0, mill.counter());
    }

    private static void promise10State() {
        SeedMill mill = new SeedMill();
        for (int which = -1; which <= 2; which++) {
            Due.is("not seeded: state(" + which + ", 5)", SeedMill.NONE, mill.state(which, 5));
        }
        mill = seeded("state");
        Reference reference = seededReference("state");
        Bytes.dueState("seeded", reference.key, reference.value, mill);
        for (int far : FAR) {
            Due.is("state(" + far + ", 0)", SeedMill.NONE, mill.state(far, 0));
        }
        mill.draw(1);
        reference.draw(1);
        Bytes.dueState("drawn", reference.key, reference.value, mill);
    }

    private static void promise11Forget() {
        SeedMill mill = new SeedMill();
        Due.is("forget() of a new one", 0, mill.forget());
        mill = seeded("forget");
        mill.feed(0x6b6579, 3);
        mill.own();
        mill.draw(9);
        mill.feed(0x726f77, 3);
        Due.is("forget()", 1, mill.forget());
        Due.is("forget() again", 0, mill.forget());
        Due.is("counter() after forget", 0, mill.counter());
        Due.is("count(1) after forget", 0, mill.count(1));
        Due.is("out(0) after forget", SeedMill.NONE, mill.out(0));
        Due.is("state(0, 0) after forget", SeedMill.NONE, mill.state(0, 0));
        Due.is("state(1, 31) after forget", SeedMill.NONE, mill.state(1, 31));
        Due.is("draw(1) after forget", 1, mill.draw(1));
        Due.is("check() after forget", 1, mill.check());
        Due.is("input after forget", 3, mill.count(0));
        Bytes.dueKeyed("after forget",
                Reference.keyedHashOf(Bytes.ofText("key"), Bytes.ofText("row")), mill);
        Due.is("seed() after forget", 1, mill.seed());
        Reference reference = seededReference("row");
        Bytes.dueState("seeded after forget", reference.key, reference.value, mill);
        Due.is("count(1) when seeded after forget", 0, mill.count(1));
    }

    private static void promise12Hash() {
        SeedMill abc = new SeedMill();
        Bytes.feed(abc, Bytes.ofText("abc"));
        Bytes.dueHash("abc", Bytes.ofHex(
                "ba7816bf8f01cfea414140de5dae2223b00361a396177a9cb410ff61f20015ad"), abc);
        Due.is("input after hash", 3, abc.count(0));
        for (int n = 0; n <= 300; n++) {
            SeedMill mill = new SeedMill();
            byte[] row = Bytes.some(n, n);
            Bytes.feed(mill, row);
            Bytes.dueHash(n + " bytes", Reference.hashOf(row), mill);
        }
        SeedMill mill = seeded("hash");
        Reference reference = seededReference("hash");
        mill.hash(0);
        Bytes.dueState("after hash", reference.key, reference.value, mill);
    }

    private static void promise13Own() {
        SeedMill mill = new SeedMill();
        Due.is("own() of none", 0, mill.own());
        byte[] row = Bytes.ofText("row");
        for (int n : new int[] {300, 5, 64, 65, 1}) {
            byte[] key = Bytes.some(n, n);
            Bytes.feed(mill, key);
            Due.is("own() of " + n, n, mill.own());
            Due.is("input after own", 0, mill.count(0));
            Due.is("count(2) after own", n, mill.count(2));
            Bytes.feed(mill, row);
            Bytes.dueKeyed("own key of " + n, Reference.keyedHashOf(key, row), mill);
            mill.clear();
        }
        Due.is("own() of none again", 0, mill.own());
        Due.is("count(2) after own of none", 0, mill.count(2));
        Bytes.dueKeyed("own key of none", Reference.keyedHashOf(new byte[0], new byte[0]), mill);
    }

    private static void promise14Keyed() {
        SeedMill jefe = new SeedMill();
        Bytes.feed(jefe, Bytes.ofText("Jefe"));
        jefe.own();
        Bytes.feed(jefe, Bytes.ofText("what do ya want for nothing?"));
        Bytes.dueKeyed("Jefe", Bytes.ofHex(
                "5bdcc146bf60754e6a042426089575c75a003f089d2739839dec58b964ec3843"), jefe);
        Due.is("input after keyed", 28, jefe.count(0));
        Due.is("own key after keyed", 4, jefe.count(2));
        int[] sizes = {0, 1, 31, 32, 55, 56, 63, 64, 65, 119, 120, 128, 299, 300};
        for (int keySize : sizes) {
            for (int rowSize : sizes) {
                byte[] key = Bytes.some(keySize, 1);
                byte[] row = Bytes.some(rowSize, 2);
                SeedMill mill = new SeedMill();
                Bytes.feed(mill, key);
                mill.own();
                Bytes.feed(mill, row);
                Bytes.dueKeyed("key of " + keySize + ", row of " + rowSize,
                        Reference.keyedHashOf(key, row), mill);
            }
        }
        SeedMill mill = seeded("keyed");
        Reference reference = seededReference("keyed");
        mill.keyed(0);
        Bytes.dueState("after keyed", reference.key, reference.value, mill);
    }

    private static void promise15Count() {
        SeedMill mill = seeded("count");
        mill.feed(1, 7);
        mill.own();
        mill.draw(17);
        mill.draw(0);
        mill.draw(19);
        mill.feed(1, 5);
        mill.interval(77);
        int[] counts = {5, 19, 7, 2, 77};
        for (int what = 0; what < counts.length; what++) {
            Due.is("count(" + what + ")", counts[what], mill.count(what));
        }
        for (int what : new int[] {5, 6, 100}) {
            Due.is("count(" + what + ")", SeedMill.NONE, mill.count(what));
        }
        for (int what : FAR) {
            Due.is("count(" + what + ")", SeedMill.NONE, mill.count(what));
        }
        mill.reseed();
        Due.is("draws after reseed", 2, mill.count(3));
        mill.forget();
        Due.is("draws after forget", 2, mill.count(3));
        mill.feed(1, 1);
        mill.seed();
        Due.is("draws after seed", 2, mill.count(3));
        mill.draw(1);
        Due.is("draws after one more", 3, mill.count(3));
    }

    private static void promise16Check() {
        SeedMill mill = new SeedMill();
        Due.is("new: check()", 1, mill.check());
        mill.feed(1, 1);
        Due.is("not seeded: check()", 1, mill.check());
        mill.seed();
        Due.is("seeded: check()", 1, mill.check());
        mill.draw(400);
        Due.is("drawn: check()", 1, mill.check());
        mill.feed(2, 2);
        mill.draw(33);
        Due.is("drawn with input: check()", 1, mill.check());
        Reference reference = new Reference();
        reference.feed(1, 1);
        reference.seed();
        reference.draw(400);
        reference.feed(2, 2);
        reference.draw(33);
        Bytes.dueState("after check", reference.key, reference.value, mill);
        mill.feed(3, 3);
        mill.reseed();
        Due.is("reseeded: check()", 1, mill.check());
        mill.draw(0);
        mill.forget();
        Due.is("forgotten: check()", 1, mill.check());
    }

    /** A published example of such a mill over this hash: the second draw of 128 bytes. */
    private static void knownDraws() {
        SeedMill mill = new SeedMill();
        Bytes.feed(mill, Bytes.ofHex("ca851911349384bffe89de1cbdc46e6831e44d34a4fb935ee285dd14b71a7488"
                + "659ba96c601dc69fc902940805ec0ca8"));
        mill.seed();
        mill.draw(128);
        mill.draw(128);
        Bytes.dueOut("published example", Bytes.ofHex(
                "e528e9abf2dece54d47c7e75e5fe302149f817ea9fb4bee6f4199697d04d5b89"
                + "d54fbb978a15b5c443c9ec21036d2460b6f73ebad0dc2aba6e624abf07745bc1"
                + "07694bb7547bb0995f70de25d6b29e2d3011bb19d27676c07162c8b5ccde0668"
                + "961df86803482cb37ed6d5c0bb8d50cf1f50d476aa0458bdaba806f48be9dcb8"), mill);
    }
}
