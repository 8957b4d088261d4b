import java.util.ArrayList;
import java.util.List;

/**
 * A run of calls on a new object, and what is due of each. What comes is seen by playing the run on a new object every
 * time, since nothing is promised of an object after its 512th call.
 */
final class Run {
    static final int MOST_CALLS = 512;

    private final List<Call> calls;
    private List<String> seen = null;

    Run() {
        this(List.of());
    }

    private Run(List<Call> calls) {
        this.calls = new ArrayList<>(calls);
    }

    /** Another run that begins with all the calls of this one. */
    Run branch() {
        return new Run(calls);
    }

    Run does(String name, int... arguments) {
        Call call = new Call(name, arguments);
        String outcome = outcomeOf(call);
        if (outcome.startsWith(Call.THROWS)) {
            complain(call, outcome, "that it is done");
        }
        keep(call);
        return this;
    }

    void answers(Object due, String name, int... arguments) {
        Call call = new Call(name, arguments);
        String outcome = outcomeOf(call);
        if (!outcome.equals(due.toString())) {
            complain(call, outcome, due.toString());
        }
        keep(call);
    }

    void noSuchElement(String name, int... arguments) {
        refuses("NoSuchElementException", new Call(name, arguments));
    }

    void outOfBounds(String name, int... arguments) {
        refuses("IndexOutOfBoundsException", new Call(name, arguments));
    }

    void unsupported(String name, int... arguments) {
        refuses("UnsupportedOperationException", new Call(name, arguments));
    }

    void illegalState(String name, int... arguments) {
        refuses("IllegalStateException", new Call(name, arguments));
    }

    void illegalArgument(String name, int... arguments) {
        refuses("IllegalArgumentException", new Call(name, arguments));
    }

    /** The call throws just that exception, and nothing that can be found out is changed by it. */
    void refuses(String exception, Call call) {
        String outcome = outcomeOf(call);
        if (!outcome.equals(Call.THROWS + exception)) {
            complain(call, outcome, exception);
            return;
        }
        if (seen == null) {
            seen = View.after(calls);
        }
        if (!View.after(with(calls, call)).equals(seen)) {
            complain(call, outcome + " and changed something", "that nothing is changed");
        }
    }

    /** What entry() answers for 0, 1 and 2. */
    void entryIs(int process, int entry, int first, int count, int rights) {
        answers(first, "entry", process, entry, 0);
        answers(count, "entry", process, entry, 1);
        answers(rights, "entry", process, entry, 2);
    }

    void entryIsEmpty(int process, int entry) {
        entryIs(process, entry, GrantMachine.NONE, 0, 0);
    }

    /** What slot() answers for 0, 1, 2 and so on. */
    void slotIs(int process, int slot, int... due) {
        for (int what = 0; what < due.length; what++) {
            answers(due[what], "slot", process, slot, what);
        }
    }

    void slotIsEmpty(int process, int slot) {
        int none = GrantMachine.NONE;
        slotIs(process, slot, 0, none, none, none, none, none, none, none, none);
    }

    void slotIsDoor(int process, int slot, int procedure) {
        int none = GrantMachine.NONE;
        slotIs(process, slot, 2, none, none, none, none, none, none, none, procedure);
    }

    private String outcomeOf(Call call) {
        return call.on(play(calls));
    }

    private void keep(Call call) {
        if (call.isQuestion()) {
            return;
        }
        calls.add(call);
        seen = null;
    }

    private void complain(Call call, String got, String due) {
        Check.complain(calls + " and then " + call + ": " + got + ", due is " + due);
    }

    static GrantMachine play(List<Call> calls) {
        if (calls.size() >= MOST_CALLS) {
            throw new AssertionError("after so many calls nothing is promised");
        }
        GrantMachine machine = new GrantMachine();
        for (Call call : calls) {
            call.on(machine);
        }
        return machine;
    }

    static List<Call> with(List<Call> calls, Call last) {
        List<Call> longer = new ArrayList<>(calls);
        longer.add(last);
        return longer;
    }
}
