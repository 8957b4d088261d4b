import java.util.NoSuchElementException;

/** Promises 5 and 17, and the term STEPS: what is given, what is told, and what each doing costs. */
public final class StepsTest {
    public static void main(String[] args) {
        giving();
        wrongGiving();
        theMost();
        everyDoingCostsOne();
        refusedDoingsCostNothing();
        withoutStepsNothingIsDone();
        givingAndAskingCostNothing();
        wrongAsking();
        Check.end();
    }

    private static void giving() {
        GrantMachine x = new GrantMachine();
        x.make(1, 0);
        x.steps(0, 1000);
        x.steps(0, 0);
        x.steps(0, 1);
        Check.same("steps of 0", x.about(0, 0), 1001);
        Check.same("steps of 1", x.about(1, 0), 0);
        x.steps(1, 3);
        Check.same("steps of 0, as before", x.about(0, 0), 1001);
        Check.same("steps of 1, given", x.about(1, 0), 3);
    }

    private static void wrongGiving() {
        GrantMachine x = new GrantMachine();
        Class<IllegalArgumentException> wrong = IllegalArgumentException.class;
        Check.refuses(x, "steps(1, -1)", NoSuchElementException.class, () -> x.steps(1, -1));
        Check.refuses(x, "steps(4, 1)", NoSuchElementException.class, () -> x.steps(4, 1));
        Check.refuses(x, "steps(-1, 1)", NoSuchElementException.class, () -> x.steps(-1, 1));
        Check.refuses(x, "steps(0, -1)", wrong, () -> x.steps(0, -1));
        Check.refuses(x, "steps(0, 1001)", wrong, () -> x.steps(0, 1001));
        Check.refuses(x, "steps(0, most)", wrong, () -> x.steps(0, Integer.MAX_VALUE));
        Check.refuses(x, "steps(0, least)", wrong, () -> x.steps(0, Integer.MIN_VALUE));
    }

    /** The edge of a million lies behind the 512th call, where nothing is promised; the program holds to it all the same. */
    private static void theMost() {
        GrantMachine x = new GrantMachine();
        for (int i = 0; i < 999; i++) {
            x.steps(0, 1000);
        }
        x.steps(0, 999);
        Check.refuses(x, "steps(0, 2) at 999999", IllegalArgumentException.class, () -> x.steps(0, 2));
        x.steps(0, 1);
        Check.same("steps of 0", x.about(0, 0), 1000000);
        Check.refuses(x, "steps(0, 1) at 1000000", IllegalArgumentException.class, () -> x.steps(0, 1));
        x.steps(0, 0);
    }

    private static void everyDoingCostsOne() {
        GrantMachine x = withDoorAndMemory();
        x.steps(0, 7);
        x.read(0, 0, 0);
        Check.same("steps after read", x.about(0, 0), 6);
        x.write(0, 0, 0, 1);
        Check.same("steps after write", x.about(0, 0), 5);
        x.refine(0, 0, 1, 0, 1, 7);
        Check.same("steps after refine", x.about(0, 0), 4);
        x.move(0, 0, 2);
        Check.same("steps after move", x.about(0, 0), 3);
        x.drop(0, 4);
        Check.same("steps after drop of an empty slot", x.about(0, 0), 2);
        x.enter(0, 5);
        Check.same("steps after enter", x.about(0, 0), 1);
        x.back(0);
        Check.same("steps after back", x.about(0, 0), 0);
    }

    private static void refusedDoingsCostNothing() {
        GrantMachine x = withDoorAndMemory();
        x.steps(0, 1);
        Class<IllegalStateException> state = IllegalStateException.class;
        Class<IllegalArgumentException> wrong = IllegalArgumentException.class;
        Check.refuses(x, "read of a door", state, () -> x.read(0, 5, 0));
        Check.refuses(x, "read beyond", wrong, () -> x.read(0, 0, 10));
        Check.refuses(x, "write of a door", state, () -> x.write(0, 5, 0, 1));
        Check.refuses(x, "write beyond", wrong, () -> x.write(0, 0, 10, 1));
        Check.refuses(x, "refine of a door", state, () -> x.refine(0, 5, 1, 0, 1, 0));
        Check.refuses(x, "refine beyond", wrong, () -> x.refine(0, 0, 1, 0, 11, 0));
        Check.refuses(x, "move of an empty slot", state, () -> x.move(0, 4, 1));
        Check.refuses(x, "enter by memory", state, () -> x.enter(0, 0));
        Check.refuses(x, "back with nothing put by", state, () -> x.back(0));
        Check.refuses(x, "drop of no slot", IndexOutOfBoundsException.class, () -> x.drop(0, 14));
        Check.same("steps of 0", x.about(0, 0), 1);
    }

    /** No steps goes behind a wrong process or slot, and ahead of all else. */
    private static void withoutStepsNothingIsDone() {
        GrantMachine x = withDoorAndMemory();
        Class<UnsupportedOperationException> spent = UnsupportedOperationException.class;
        Class<IndexOutOfBoundsException> noSlot = IndexOutOfBoundsException.class;
        Class<NoSuchElementException> none = NoSuchElementException.class;
        Check.refuses(x, "read", spent, () -> x.read(0, 0, 0));
        Check.refuses(x, "read of an empty slot", spent, () -> x.read(0, 4, -1));
        Check.refuses(x, "read of slot 14", noSlot, () -> x.read(0, 14, 0));
        Check.refuses(x, "read of slot -1", noSlot, () -> x.read(0, -1, 0));
        Check.refuses(x, "read of process 1", none, () -> x.read(1, 14, 0));
        Check.refuses(x, "write", spent, () -> x.write(0, 0, 0, 1));
        Check.refuses(x, "write of an empty slot", spent, () -> x.write(0, 4, -1, 1));
        Check.refuses(x, "write of slot 14", noSlot, () -> x.write(0, 14, 0, 1));
        Check.refuses(x, "write of slot -1", noSlot, () -> x.write(0, -1, 0, 1));
        Check.refuses(x, "write of process 1", none, () -> x.write(1, 14, 0, 1));
        Check.refuses(x, "refine", spent, () -> x.refine(0, 0, 1, 0, 1, 1));
        Check.refuses(x, "refine, all wrong", spent, () -> x.refine(0, 4, 1, -1, -1, -1));
        Check.refuses(x, "refine of slot 14", noSlot, () -> x.refine(0, 14, 1, 0, 1, 1));
        Check.refuses(x, "refine to slot 14", noSlot, () -> x.refine(0, 0, 14, 0, 1, 1));
        Check.refuses(x, "refine of slot -1", noSlot, () -> x.refine(0, -1, 1, 0, 1, 1));
        Check.refuses(x, "refine to slot -1", noSlot, () -> x.refine(0, 0, -1, 0, 1, 1));
        Check.refuses(x, "refine of process 4", none, () -> x.refine(4, 14, 14, 0, 1, 1));
        Check.refuses(x, "move", spent, () -> x.move(0, 0, 1));
        Check.refuses(x, "move of an empty slot", spent, () -> x.move(0, 4, 1));
        Check.refuses(x, "move of slot 14", noSlot, () -> x.move(0, 14, 1));
        Check.refuses(x, "move to slot 14", noSlot, () -> x.move(0, 0, 14));
        Check.refuses(x, "move of slot -1", noSlot, () -> x.move(0, -1, 1));
        Check.refuses(x, "move to slot -1", noSlot, () -> x.move(0, 0, -1));
        Check.refuses(x, "move of process -1", none, () -> x.move(-1, 14, 14));
        Check.refuses(x, "drop", spent, () -> x.drop(0, 0));
        Check.refuses(x, "drop of slot 14", noSlot, () -> x.drop(0, 14));
        Check.refuses(x, "drop of slot -1", noSlot, () -> x.drop(0, -1));
        Check.refuses(x, "drop of process 2", none, () -> x.drop(2, 14));
        Check.refuses(x, "enter", spent, () -> x.enter(0, 5));
        Check.refuses(x, "enter by memory", spent, () -> x.enter(0, 0));
        Check.refuses(x, "enter by slot 14", noSlot, () -> x.enter(0, 14));
        Check.refuses(x, "enter by slot -1", noSlot, () -> x.enter(0, -1));
        Check.refuses(x, "enter of process 3", none, () -> x.enter(3, 14));
        Check.refuses(x, "back", spent, () -> x.back(0));
        Check.refuses(x, "back of process 1", none, () -> x.back(1));
    }

    private static void givingAndAskingCostNothing() {
        GrantMachine x = withDoorAndMemory();
        x.steps(0, 2);
        x.load(0, 1, 0, 0, 1, 1);
        x.seal(0, 1, 6);
        x.region(1, 0, 1);
        x.make(1, 0);
        x.grant(1, 0, 0, 0, 1, 1);
        x.slot(0, 0, 0);
        x.entry(0, 0, 0);
        x.reaches(0, 0);
        x.look(0);
        Check.same("steps of 0", x.about(0, 0), 2);
    }

    private static void wrongAsking() {
        GrantMachine x = new GrantMachine();
        Check.refuses(x, "about(1, 3)", NoSuchElementException.class, () -> x.about(1, 3));
        Check.refuses(x, "about(4, 0)", NoSuchElementException.class, () -> x.about(4, 0));
        Check.refuses(x, "about(-1, 0)", NoSuchElementException.class, () -> x.about(-1, 0));
        Check.refuses(x, "about(0, 3)", IllegalArgumentException.class, () -> x.about(0, 3));
        Check.refuses(x, "about(0, -1)", IllegalArgumentException.class, () -> x.about(0, -1));
    }

    private static GrantMachine withDoorAndMemory() {
        GrantMachine x = new GrantMachine();
        x.region(0, 0, 10);
        x.load(0, 0, 0, 0, 10, 7);
        x.seal(0, 0, 5);
        return x;
    }
}
