/** Counts and prints the answers that are not the ones due. */
final class Due {
    private static int wrong = 0;

    private Due() {
    }

    static void is(String what, long want, long got) {
        if (got != want) {
            wrong++;
            System.out.println(what + " answered " + got + ", due is " + want);
        }
    }

    static void holds(String what, boolean condition) {
        is(what, 1, condition ? 1 : 0);
    }

    static void finish() {
        if (wrong != 0) {
            System.out.println(wrong + " answers are not as due");
            System.exit(1);
        }
    }
}
