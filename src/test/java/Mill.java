/** The class under test, held to the 512 calls whose answers the document promises. */
final class Mill implements Face {
    static final int CALLS = 512;

    private final SeedMill mill = new SeedMill();
    private int calls = 0;

    private SeedMill counted() {
        calls++;
        Due.holds("a test's object is used for at most 512 calls", calls != CALLS + 1);
        return mill;
    }

    int calls() {
        return calls;
    }

    @Override
    public int feed(long bytes, int n) {
        return counted().feed(bytes, n);
    }

    @Override
    public int clear() {
        return counted().clear();
    }

    @Override
    public int seed() {
        return counted().seed();
    }

    @Override
    public int reseed() {
        return counted().reseed();
    }

    @Override
    public int draw(int n) {
        return counted().draw(n);
    }

    @Override
    public int interval(int n) {
        return counted().interval(n);
    }

    @Override
    public int out(int i) {
        return counted().out(i);
    }

    @Override
    public int counter() {
        return counted().counter();
    }

    @Override
    public int state(int which, int i) {
        return counted().state(which, i);
    }

    @Override
    public int forget() {
        return counted().forget();
    }

    @Override
    public int hash(int i) {
        return counted().hash(i);
    }

    @Override
    public int own() {
        return counted().own();
    }

    @Override
    public int keyed(int i) {
        return counted().keyed(i);
    }

    @Override
    public int count(int what) {
        return counted().count(what);
    }

    @Override
    public int check() {
        return counted().check();
    }
}
