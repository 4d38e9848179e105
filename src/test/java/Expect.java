/** Counts and prints the answers that are not as due. */
final class Expect {
    private static int wrong = 0;
    private static String sentence = "";

    private Expect() {
    }

    /** The sentence of the document that the following answers hold to. */
    static void under(String words) {
        sentence = words + ": ";
    }

    static void same(String call, long got, long due) {
        if (got != due) {
            wrong++;
            System.out.println(sentence + call + " answered " + got + ", due is " + due);
        }
    }

    static void same(String call, boolean got, boolean due) {
        same(call, got ? 1 : 0, due ? 1 : 0);
    }

    static void finish() {
        System.out.println(wrong == 0 ? "all answers are as due" : wrong + " answers are not as due");
        if (wrong != 0) {
            System.exit(1);
        }
    }
}
