import java.util.ArrayList;
import java.util.List;

/**
 * Every call of the face with each argument at the last values that are taken and at the first ones that are refused,
 * and with wrong arguments together: what is refused changes nothing, and throws the exception that goes ahead.
 */
public final class RefusalTest {
    private static final int LEAST = Integer.MIN_VALUE;
    private static final int MOST = Integer.MAX_VALUE;

    /** In the order in which they go ahead of one another. */
    private enum Refusal {
        NO_PROCESS("NoSuchElementException"),
        NO_INDEX("IndexOutOfBoundsException"),
        NO_STEPS("UnsupportedOperationException"),
        STATE("IllegalStateException"),
        ARGUMENT("IllegalArgumentException");

        final String exception;

        Refusal(String exception) {
            this.exception = exception;
        }
    }

    private record Wrong(int value, Refusal refusal) {
    }

    /** What is taken for an argument (the first value stands where others are tried), and what is not. */
    private record Argument(int[] taken, List<Wrong> wrong) {
        Argument butNot(Refusal refusal, int... values) {
            List<Wrong> more = new ArrayList<>(wrong);
            for (int value : values) {
                more.add(new Wrong(value, refusal));
            }
            return new Argument(taken, more);
        }
    }

    private final String name;
    private final boolean costsAStep;
    private final Argument[] arguments;

    private RefusalTest(String name, boolean costsAStep, Argument... arguments) {
        this.name = name;
        this.costsAStep = costsAStep;
        this.arguments = arguments;
    }

    public static void main(String[] args) {
        Run withoutSteps = furnished();
        Run withSteps = furnished().does("steps", 0, 50).does("steps", 2, 50);
        Run withProcess3 = furnished().does("make", 3, 0);
        furnish(withProcess3, 3);
        withProcess3.does("steps", 3, 50);
        for (RefusalTest call : calls()) {
            call.takesEachEdge(withSteps);
            call.refusesEachWrongValue(withSteps);
            call.refusesWrongValuesTogether(withSteps, false);
            call.refusesWrongValuesTogether(withoutSteps, true);
            if (call.isOfAProcess()) {
                withProcess3.branch().does(call.name, call.rightBut(0, 3));
                call.refusesProcessesNeverMade();
            }
        }
        Check.end();
    }

    private static List<RefusalTest> calls() {
        Argument process = taken(2, 0, 1).butNot(Refusal.NO_PROCESS, -1, 3, 4, LEAST, MOST);
        Argument doer = taken(2, 0).butNot(Refusal.NO_PROCESS, -1, 3, 4, LEAST, MOST);
        Argument entry = within(0, 7, Refusal.NO_INDEX);
        Argument slot = within(0, 13, Refusal.NO_INDEX);
        Argument extent = within(0, 256, Refusal.ARGUMENT);
        Argument rights = within(0, 7, Refusal.ARGUMENT);
        Argument word = within(0, 255, Refusal.NO_INDEX);
        Argument what = within(0, 2, Refusal.ARGUMENT);
        Argument readable = slot.butNot(Refusal.STATE, 2, 3, 4);
        Argument part = within(0, 9, Refusal.ARGUMENT);
        return List.of(
                free("region", entry, extent, extent),
                free("make", taken(2, 1, 3).butNot(Refusal.NO_PROCESS, 0, -1, 4, LEAST, MOST),
                        taken(0, 1).butNot(Refusal.NO_PROCESS, -1, 3, 4, LEAST, MOST).butNot(Refusal.ARGUMENT, 2)),
                free("grant", taken(2, 1).butNot(Refusal.NO_PROCESS, 0, -1, 3, 4, LEAST, MOST),
                        entry, entry, extent, extent, rights),
                free("steps", process, within(0, 1000, Refusal.ARGUMENT)),
                free("load", process, slot, entry, extent, extent, rights),
                free("seal", process, within(0, 3, Refusal.NO_INDEX), slot),
                doing("read", doer, readable, within(0, 8, Refusal.ARGUMENT)),
                doing("write", doer, readable, within(0, 8, Refusal.ARGUMENT), taken(-7, LEAST, MOST)),
                doing("refine", doer, slot.butNot(Refusal.STATE, 3, 4), slot, part, part, rights),
                doing("move", doer, slot.butNot(Refusal.STATE, 3), slot),
                doing("drop", doer, slot),
                doing("enter", doer, taken(4, 12).butNot(Refusal.NO_INDEX, -1, 14, LEAST, MOST)
                        .butNot(Refusal.STATE, 0, 3)),
                doing("back", doer),
                free("slot", process, slot, within(0, 8, Refusal.ARGUMENT)),
                free("entry", process, entry, what),
                free("about", process, what),
                free("reaches", process, word),
                free("look", word));
    }

    private static RefusalTest free(String name, Argument... arguments) {
        return new RefusalTest(name, false, arguments);
    }

    private static RefusalTest doing(String name, Argument... arguments) {
        return new RefusalTest(name, true, arguments);
    }

    private static Argument taken(int... values) {
        return new Argument(values, List.of());
    }

    private static Argument within(int first, int last, Refusal refusal) {
        return taken(first, last).butNot(refusal, first - 1, last + 1, LEAST, MOST);
    }

    private void takesEachEdge(Run furnished) {
        for (int at = 0; at < arguments.length; at++) {
            for (int value : arguments[at].taken) {
                furnished.branch().does(name, rightBut(at, value));
            }
        }
    }

    private void refusesEachWrongValue(Run furnished) {
        for (int at = 0; at < arguments.length; at++) {
            for (Wrong wrong : arguments[at].wrong) {
                furnished.refuses(wrong.refusal.exception, new Call(name, rightBut(at, wrong.value)));
            }
        }
    }

    private void refusesProcessesNeverMade() {
        for (int process = 1; process <= 3; process++) {
            new Run().refuses(Refusal.NO_PROCESS.exception, new Call(name, rightBut(0, process)));
        }
    }

    private int[] rightBut(int at, int value) {
        int[] values = new int[arguments.length];
        for (int i = 0; i < values.length; i++) {
            values[i] = i == at ? value : arguments[i].taken[0];
        }
        return values;
    }

    private void refusesWrongValuesTogether(Run furnished, boolean stepsLack) {
        tryAll(furnished, 0, new int[arguments.length], stepsLack && costsAStep ? Refusal.NO_STEPS : null);
    }

    /** Each argument from there on is once right, and once wrong in each way in which it can be. */
    private void tryAll(Run furnished, int at, int[] values, Refusal due) {
        if (at == arguments.length) {
            if (due != null) {
                furnished.refuses(due.exception, new Call(name, values.clone()));
            }
            return;
        }
        values[at] = arguments[at].taken[0];
        tryAll(furnished, at + 1, values, due);
        Refusal tried = null;
        for (Wrong wrong : arguments[at].wrong) {
            if (wrong.refusal != tried) {
                tried = wrong.refusal;
                values[at] = wrong.value;
                tryAll(furnished, at + 1, values, theOneAhead(due, tried));
            }
        }
    }

    private static Refusal theOneAhead(Refusal one, Refusal other) {
        return one == null || other.ordinal() < one.ordinal() ? other : one;
    }

    private boolean isOfAProcess() {
        return arguments[0].wrong.contains(new Wrong(3, Refusal.NO_PROCESS));
    }

    /**
     * Processes 0, 1 and 2, each the next one's parent, and 3 made no more. Processes 0 and 2 have spent their steps,
     * and have words written, lists put by, and procedures; in their slots: 0 and 13 nine words with all rights, 2 the
     * same without the rights to read and write, 3 nothing, 4 and 12 doors.
     */
    private static Run furnished() {
        Run x = new Run();
        x.does("make", 1, 0).does("make", 2, 1).does("make", 3, 2).does("make", 2, 1);
        for (int entry = 0; entry < 8; entry++) {
            x.does("region", entry, 30 * entry, 30);
            x.does("grant", 1, entry, entry, 2, 25, 7);
        }
        furnish(x, 0);
        furnish(x, 2);
        return x;
    }

    private static void furnish(Run x, int process) {
        for (int entry = 0; process != 0 && entry < 8; entry++) {
            x.does("grant", process, entry, entry, 1, 20, 7);
        }
        x.does("steps", process, 3);
        x.does("load", process, 1, 1, 1, 3, 7);
        x.does("seal", process, 0, 4);
        x.does("load", process, 1, 2, 2, 6, 7);
        x.does("seal", process, 1, 12);
        x.does("load", process, 7, 3, 3, 5, 7);
        x.does("write", process, 7, 1, 70 + process);
        x.does("enter", process, 4);
        x.does("seal", process, 2, 4);
        x.does("load", process, 0, 5, 0, 9, 7);
        x.does("load", process, 2, 5, 0, 9, 4);
        x.does("load", process, 13, 5, 0, 9, 7);
        x.does("write", process, 13, 8, 80 + process);
        x.does("seal", process, 3, 12);
    }
}
