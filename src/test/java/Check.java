/** Counts what is not as it is due, and ends the program by it. */
final class Check {
    private static int wrong = 0;
    private static int right = 0;
    private static String sentence = "";

    private Check() {
    }

    /** What is checked from here on is asked for by this sentence. */
    static void sentence(String words) {
        sentence = "[" + words + "] ";
    }

    static void same(String what, Object got, Object due) {
        if (got.equals(due)) {
            right++;
            return;
        }
        wrong++;
        if (wrong <= 50) {
            System.out.println(sentence + what + " answered " + got + ", due is " + due);
        }
    }

    static int wrong() {
        return wrong;
    }

    static void end() {
        System.out.println(right + " answers as due, " + wrong + " not");
        if (wrong != 0 || right == 0) {
            System.exit(1);
        }
    }
}
