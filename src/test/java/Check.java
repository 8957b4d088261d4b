/** Counts and prints what is not as due; a test's main method closes with end(). */
final class Check {
    private static int wrong = 0;

    private Check() {
    }

    static void same(String what, long got, long due) {
        if (got != due) {
            complain(what + " answered " + got + ", due is " + due);
        }
    }

    static void yes(String what, boolean got) {
        if (!got) {
            complain(what + " does not hold");
        }
    }

    static void complain(String text) {
        wrong++;
        System.out.println(text);
    }

    static int wrongSoFar() {
        return wrong;
    }

    static void end() {
        if (wrong != 0) {
            System.out.println(wrong + " are not as due");
            System.exit(1);
        }
    }
}
