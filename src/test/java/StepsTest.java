import java.util.List;

/** Promises 5 and 17, and the term STEPS: what is given, what is told, and what each doing costs. */
public final class StepsTest {
    private static final int LEAST = Integer.MIN_VALUE;
    private static final int MOST = Integer.MAX_VALUE;

    /** One of each that "cost one each", all possible one after the other; and a refused one of each. */
    private static final List<Call> DOINGS = List.of(
            new Call("read", 1, 0, 0), new Call("write", 1, 0, 0, 7), new Call("refine", 1, 0, 1, 0, 1, 7),
            new Call("move", 1, 0, 2), new Call("drop", 1, 3), new Call("enter", 1, 5), new Call("back", 1));
    private static final List<Call> NOT_THE_STATE = List.of(
            new Call("read", 1, 5, 0), new Call("write", 1, 5, 0, 7), new Call("refine", 1, 5, 1, 0, 1, 7),
            new Call("move", 1, 4, 2), new Call("move", 1, 6, 10), new Call("enter", 1, 0), new Call("back", 1));
    private static final List<Call> NOT_THE_ARGUMENT = List.of(
            new Call("read", 1, 0, 10), new Call("write", 1, 0, 10, 7), new Call("refine", 1, 0, 1, 0, 11, 7));
    private static final List<Call> NOT_THE_SLOT = List.of(
            new Call("read", 1, 14, 0), new Call("write", 1, 14, 0, 7), new Call("refine", 1, 0, 14, 0, 1, 7),
            new Call("move", 1, 0, 14), new Call("drop", 1, 14), new Call("enter", 1, 14));

    public static void main(String[] args) {
        stepsAreAdded();
        wrongSteps();
        asManyAsARunCanGive();
        theMost();
        everyDoingCostsOne();
        theLastStep();
        refusedDoingsCostNothing();
        refusedForWantOfStepsAheadOfAllElse();
        whatElseNeedsNoSteps();
        eachProcessHasItsOwn();
        about();
        wrongWhats();
        Check.end();
    }

    /** "A process gets so many steps more." */
    private static void stepsAreAdded() {
        Run x = new Run().does("make", 1, 0);
        x.does("steps", 0, 1000).answers(1000, "about", 0, 0);
        x.does("steps", 0, 0).answers(1000, "about", 0, 0);
        x.does("steps", 0, 1).answers(1001, "about", 0, 0);
        x.does("steps", 0, 1000).answers(2001, "about", 0, 0);
        x.answers(0, "about", 1, 0);
        x.does("steps", 1, 3).answers(3, "about", 1, 0);
        x.answers(2001, "about", 0, 0);
    }

    /** "IllegalArgumentException if they are not 0 .. 1000" */
    private static void wrongSteps() {
        Run x = new Run().does("steps", 0, 5);
        for (int steps : new int[] {-1, -5, 1001, LEAST, MOST}) {
            x.illegalArgument("steps", 0, steps);
        }
        x.noSuchElement("steps", 1, -1);
    }

    /** The most that calls can give while something is promised: no limit may lie below it. */
    private static void asManyAsARunCanGive() {
        Run x = new Run();
        for (int n = 1; n < Run.MOST_CALLS; n++) {
            x.does("steps", 0, 1000);
        }
        x.answers(511000, "about", 0, 0);
    }

    /**
     * "or it would have more than 1000000": that lies behind the 512th call, where nothing is promised, so that Run
     * cannot play it; the program holds to it all the same.
     */
    private static void theMost() {
        GrantMachine x = new GrantMachine();
        Call two = new Call("steps", 0, 2);
        Call one = new Call("steps", 0, 1);
        String refused = Call.THROWS + "IllegalArgumentException";
        for (int i = 0; i < 999; i++) {
            x.steps(0, 1000);
        }
        x.steps(0, 999);
        Check.yes("two more than 999999 are refused", two.on(x).equals(refused));
        Check.same("steps after that", x.about(0, 0), 999999);
        Check.yes("one more than 999999 is taken", one.on(x).equals(Call.DONE));
        Check.yes("one more than 1000000 is refused", one.on(x).equals(refused));
        Check.same("steps after that", x.about(0, 0), 1000000);
        Check.yes("none more than 1000000 is taken", new Call("steps", 0, 0).on(x).equals(Call.DONE));
    }

    /** "read, write, refine, move, drop, enter and back of a process cost one each" */
    private static void everyDoingCostsOne() {
        Run x = furnished().does("steps", 1, 7);
        int left = 7;
        for (Call doing : DOINGS) {
            x.does(doing.name(), doing.arguments());
            left--;
            x.answers(left, "about", 1, 0);
        }
    }

    /** "a process does something only if it has steps left": with the last one it does, without it doesn't. */
    private static void theLastStep() {
        Run x = furnished();
        for (Call doing : DOINGS) {
            x.refuses("UnsupportedOperationException", doing);
            x.does("steps", 1, 1);
            x.does(doing.name(), doing.arguments());
            x.answers(0, "about", 1, 0);
            x.refuses("UnsupportedOperationException", doing);
        }
    }

    /** "(if they aren't refused)" */
    private static void refusedDoingsCostNothing() {
        Run x = furnished().does("steps", 1, 1);
        refusesAll(x, "IllegalStateException", NOT_THE_STATE);
        refusesAll(x, "IllegalArgumentException", NOT_THE_ARGUMENT);
        refusesAll(x, "IndexOutOfBoundsException", NOT_THE_SLOT);
        x.answers(1, "about", 1, 0);
        x.does("read", 1, 0, 0);
    }

    /** "then UnsupportedOperationException if it has no steps left": behind a wrong slot, ahead of all else. */
    private static void refusedForWantOfStepsAheadOfAllElse() {
        Run x = furnished();
        refusesAll(x, "UnsupportedOperationException", NOT_THE_STATE);
        refusesAll(x, "UnsupportedOperationException", NOT_THE_ARGUMENT);
        refusesAll(x, "IndexOutOfBoundsException", NOT_THE_SLOT);
    }

    private static void refusesAll(Run x, String exception, List<Call> doings) {
        for (Call doing : doings) {
            x.refuses(exception, doing);
        }
    }

    /** Only what a process does costs a step, or needs one. */
    private static void whatElseNeedsNoSteps() {
        for (int steps = 0; steps <= 1; steps++) {
            Run x = furnished().does("steps", 1, steps);
            x.does("load", 1, 1, 0, 0, 1, 1).does("seal", 1, 1, 6).does("region", 1, 0, 1).does("make", 2, 1);
            x.does("grant", 1, 0, 0, 0, 1, 1).does("grant", 2, 0, 0, 0, 1, 1);
            x.answers(1, "slot", 1, 0, 0);
            x.answers(1, "entry", 1, 0, 1);
            x.answers(true, "reaches", 1, 20);
            x.answers(0, "look", 20);
            x.answers(steps, "about", 1, 0);
        }
    }

    private static void eachProcessHasItsOwn() {
        Run x = furnished().does("make", 2, 1).does("steps", 0, 10).does("steps", 1, 20).does("steps", 2, 30);
        x.does("read", 1, 0, 0).does("drop", 2, 0).does("drop", 2, 1);
        x.answers(10, "about", 0, 0);
        x.answers(19, "about", 1, 0);
        x.answers(28, "about", 2, 0);
        Run none = furnished().does("steps", 0, 10);
        none.unsupported("read", 1, 0, 0);
    }

    /** "0 its steps left, 1 its parent (NONE for process 0), 2 how often lists are put by." */
    private static void about() {
        Run x = furnished().does("make", 3, 1).does("steps", 1, 9).does("enter", 1, 5).does("enter", 1, 9);
        x.answers(0, "about", 0, 0);
        x.answers(GrantMachine.NONE, "about", 0, 1);
        x.answers(0, "about", 0, 2);
        x.answers(7, "about", 1, 0);
        x.answers(0, "about", 1, 1);
        x.answers(2, "about", 1, 2);
        x.answers(0, "about", 3, 0);
        x.answers(1, "about", 3, 1);
        x.answers(0, "about", 3, 2);
    }

    /** Of about: "IllegalArgumentException for another what." */
    private static void wrongWhats() {
        Run x = furnished();
        for (int what : new int[] {-1, 3, LEAST, MOST}) {
            x.illegalArgument("about", 0, what);
            x.illegalArgument("about", 1, what);
            x.noSuchElement("about", 2, what);
        }
    }

    /** Process 1, without steps: slot 0 ten words with all rights, 6 without the right to pass on, 5 and 13 a door. */
    private static Run furnished() {
        Run x = new Run().does("region", 0, 20, 10).does("make", 1, 0).does("grant", 1, 0, 0, 0, 10, 7);
        x.does("load", 1, 0, 0, 0, 10, 7).does("load", 1, 6, 0, 0, 10, 3);
        return x.does("seal", 1, 0, 13).does("seal", 1, 0, 5);
    }
}
