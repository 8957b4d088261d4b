import java.util.Arrays;

/** Counts and prints what is not as due; a test's main method closes with end(). */
final class Check {
    private static int wrong = 0;

    private Check() {
    }

    static void same(String what, long got, long due) {
        if (got != due) {
            complain(what + " answered " + got + ", due is " + due);
        }
    }

    static void yes(String what, boolean got) {
        if (!got) {
            complain(what + " does not hold");
        }
    }

    /** The call must throw just that exception, and change nothing that can be seen. */
    static void refuses(GrantMachine machine, String what, Class<? extends RuntimeException> due, Runnable call) {
        int[] before = Snapshot.of(machine);
        Class<?> thrown = thrownBy(call);
        if (thrown != due) {
            complain(what + " threw " + thrown + ", due is " + due);
        }
        if (!Arrays.equals(before, Snapshot.of(machine))) {
            complain(what + " was refused but changed something");
        }
    }

    static Class<?> thrownBy(Runnable call) {
        try {
            call.run();
            return null;
        } catch (RuntimeException e) {
            return e.getClass();
        }
    }

    static void complain(String text) {
        wrong++;
        System.out.println(text);
    }

    static int wrongSoFar() {
        return wrong;
    }

    static void end() {
        if (wrong != 0) {
            System.out.println(wrong + " are not as due");
            System.exit(1);
        }
    }
}
