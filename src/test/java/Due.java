/** Counts and prints the answers that are not the ones due, under the sentence that asks for them. */
final class Due {
    private static final int MOST_PRINTED = 50;
    private static int wrong = 0;
    private static String sentence = "";

    private Due() {
    }

    /** The document's sentence that the answers from here on belong to. */
    static void sentence(String words) {
        sentence = words;
    }

    static void is(String what, long want, long got) {
        if (got != want) {
            wrong++;
            print(what + " answered " + got + ", due is " + want
                    + (sentence.isEmpty() ? "" : "  [" + sentence + "]"));
        }
    }

    private static void print(String line) {
        if (wrong <= MOST_PRINTED) {
            System.out.println(line);
        }
    }

    static void holds(String what, boolean condition) {
        is(what, 1, condition ? 1 : 0);
    }

    static void finish() {
        if (wrong != 0) {
            System.out.println(wrong + " answers are not as due");
            System.exit(1);
        }
    }
}
