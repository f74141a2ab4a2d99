/** The calls of the document's face, for the class under test and for the reference alike. */
interface Face {
    int feed(long bytes, int n);

    int clear();

    int seed();

    int reseed();

    int draw(int n);

    int interval(int n);

    int out(int i);

    int counter();

    int state(int which, int i);

    int forget();

    int hash(int i);

    int own();

    int keyed(int i);

    int count(int what);

    int check();
}
