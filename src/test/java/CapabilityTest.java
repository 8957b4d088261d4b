import java.util.NoSuchElementException;

/** Promises 6, 8 to 12 and 15: load, read, write, refine, move, drop and slot. */
public final class CapabilityTest {
    private static final int NONE = GrantMachine.NONE;
    private static final Class<NoSuchElementException> NO_PROCESS = NoSuchElementException.class;
    private static final Class<IndexOutOfBoundsException> NO_INDEX = IndexOutOfBoundsException.class;
    private static final Class<IllegalStateException> STATE = IllegalStateException.class;
    private static final Class<IllegalArgumentException> WRONG = IllegalArgumentException.class;

    public static void main(String[] args) {
        loading();
        wrongLoading();
        slotsOfEachKind();
        wrongSlots();
        readingAndWriting();
        rightsAreThoseReached();
        readingAndWritingBeyond();
        revoking();
        refining();
        refiningStaysWithinWhatIsTold();
        refiningNeedsNoRightToPassOn();
        wrongRefining();
        moving();
        passingOn();
        dropping();
        Check.end();
    }

    private static void loading() {
        GrantMachine x = machine();
        x.load(0, 13, 7, 256, 256, 7);
        slotIs(x, 0, 13, 1, NONE, 0, 0, 7, 256, 256, 7, NONE);
        x.load(0, 13, 0, 4, 3, 5);
        slotIs(x, 0, 13, 1, 14, 3, 5, 0, 4, 3, 5, NONE);
        x.load(0, 13, 0, 0, 0, 0);
        slotIs(x, 0, 13, 1, NONE, 0, 0, 0, 0, 0, 0, NONE);
        x.load(0, 0, 0, 15, 256, 6);
        slotIs(x, 0, 0, 1, 25, 5, 6, 0, 15, 256, 6, NONE);
        x.load(0, 0, 0, 20, 1, 6);
        slotIs(x, 0, 0, 1, NONE, 0, 6, 0, 20, 1, 6, NONE);
        x.seal(0, 0, 1);
        x.load(0, 1, 0, 0, 1, 7);
        slotIs(x, 0, 1, 1, 10, 1, 7, 0, 0, 1, 7, NONE);
    }

    private static void wrongLoading() {
        GrantMachine x = machine();
        Check.refuses(x, "process 1", NO_PROCESS, () -> x.load(1, 14, 8, -1, -1, -1));
        Check.refuses(x, "process 4", NO_PROCESS, () -> x.load(4, 0, 0, 0, 1, 1));
        Check.refuses(x, "process -1", NO_PROCESS, () -> x.load(-1, 0, 0, 0, 1, 1));
        Check.refuses(x, "slot 14", NO_INDEX, () -> x.load(0, 14, 0, -1, 1, 1));
        Check.refuses(x, "slot -1", NO_INDEX, () -> x.load(0, -1, 0, 0, 1, 1));
        Check.refuses(x, "entry 8", NO_INDEX, () -> x.load(0, 0, 8, 0, 1, 8));
        Check.refuses(x, "entry -1", NO_INDEX, () -> x.load(0, 0, -1, 0, 1, 1));
        Check.refuses(x, "from -1", WRONG, () -> x.load(0, 0, 0, -1, 1, 1));
        Check.refuses(x, "from 257", WRONG, () -> x.load(0, 0, 0, 257, 1, 1));
        Check.refuses(x, "size -1", WRONG, () -> x.load(0, 0, 0, 0, -1, 1));
        Check.refuses(x, "size 257", WRONG, () -> x.load(0, 0, 0, 0, 257, 1));
        Check.refuses(x, "rights -1", WRONG, () -> x.load(0, 0, 0, 0, 1, -1));
        Check.refuses(x, "rights 8", WRONG, () -> x.load(0, 0, 0, 0, 1, 8));
    }

    private static void slotsOfEachKind() {
        GrantMachine x = machine();
        slotIs(x, 0, 3, 0, NONE, NONE, NONE, NONE, NONE, NONE, NONE, NONE);
        x.seal(0, 3, 3);
        slotIs(x, 0, 3, 2, NONE, NONE, NONE, NONE, NONE, NONE, NONE, 3);
        x.seal(0, 0, 3);
        slotIs(x, 0, 3, 2, NONE, NONE, NONE, NONE, NONE, NONE, NONE, 0);
        x.load(0, 3, 0, 1, 2, 3);
        slotIs(x, 0, 3, 1, 11, 2, 3, 0, 1, 2, 3, NONE);
    }

    private static void wrongSlots() {
        GrantMachine x = machine();
        Check.refuses(x, "slot(1, 14, 9)", NO_PROCESS, () -> x.slot(1, 14, 9));
        Check.refuses(x, "slot(0, 14, 9)", NO_INDEX, () -> x.slot(0, 14, 9));
        Check.refuses(x, "slot(0, -1, 0)", NO_INDEX, () -> x.slot(0, -1, 0));
        Check.refuses(x, "slot(0, 0, 9) of an empty one", WRONG, () -> x.slot(0, 0, 9));
        Check.refuses(x, "slot(0, 0, -1) of an empty one", WRONG, () -> x.slot(0, 0, -1));
        x.seal(0, 0, 0);
        Check.refuses(x, "slot(0, 0, 9) of a door", WRONG, () -> x.slot(0, 0, 9));
        Check.refuses(x, "slot(0, 0, -1) of a door", WRONG, () -> x.slot(0, 0, -1));
        x.load(0, 0, 0, 0, 1, 7);
        Check.refuses(x, "slot(0, 0, 9) of memory", WRONG, () -> x.slot(0, 0, 9));
        Check.refuses(x, "slot(0, 0, -1) of memory", WRONG, () -> x.slot(0, 0, -1));
    }

    private static void readingAndWriting() {
        GrantMachine x = machine();
        x.load(0, 0, 0, 2, 5, 3);
        x.load(0, 13, 0, 0, 20, 1);
        x.write(0, 0, 0, 7);
        x.write(0, 0, 4, Integer.MIN_VALUE);
        Check.same("look(12)", x.look(12), 7);
        Check.same("look(16)", x.look(16), Integer.MIN_VALUE);
        Check.same("look(11)", x.look(11), 0);
        Check.same("read(0, 0, 0)", x.read(0, 0, 0), 7);
        Check.same("read(0, 13, 2)", x.read(0, 13, 2), 7);
        Check.same("read(0, 13, 6)", x.read(0, 13, 6), Integer.MIN_VALUE);
        Check.same("read(0, 13, 19)", x.read(0, 13, 19), 0);
        x.write(0, 0, 0, 8);
        Check.same("read(0, 13, 2), written anew", x.read(0, 13, 2), 8);
    }

    private static void rightsAreThoseReached() {
        GrantMachine x = machine();
        x.make(1, 0);
        x.steps(1, 100);
        x.load(1, 0, 0, 0, 5, 7);
        for (int granted = 0; granted <= 7; granted++) {
            for (int told = 0; told <= 7; told++) {
                x.grant(1, 0, 0, 0, 5, granted);
                x.load(1, 0, 0, 0, 5, told);
                Check.same("rights reached", x.slot(1, 0, 3), granted & told);
                Check.same("rights told", x.slot(1, 0, 7), told);
                mayIf(x, "read", (granted & told & 1) != 0, () -> x.read(1, 0, 0));
                mayIf(x, "write", (granted & told & 2) != 0, () -> x.write(1, 0, 0, 1));
            }
        }
    }

    private static void mayIf(GrantMachine x, String what, boolean may, Runnable call) {
        if (may) {
            Check.yes(what + " is let", Check.thrownBy(call) == null);
        } else {
            Check.refuses(x, what + " without the right", STATE, call);
        }
    }

    private static void readingAndWritingBeyond() {
        GrantMachine x = machine();
        x.load(0, 0, 0, 18, 9, 3);
        x.load(0, 1, 0, 0, 3, 3);
        x.load(0, 2, 0, 0, 3, 4);
        for (int i : new int[] {-1, 2, 3, Integer.MAX_VALUE, Integer.MIN_VALUE}) {
            Check.refuses(x, "read(0, 0, " + i + ")", WRONG, () -> x.read(0, 0, i));
            Check.refuses(x, "write(0, 0, " + i + ", 5)", WRONG, () -> x.write(0, 0, i, 5));
            Check.refuses(x, "read without the right", STATE, () -> x.read(0, 2, i));
            Check.refuses(x, "write without the right", STATE, () -> x.write(0, 2, i, 5));
            Check.refuses(x, "read of an empty slot", STATE, () -> x.read(0, 5, i));
            Check.refuses(x, "write of an empty slot", STATE, () -> x.write(0, 5, i, 5));
        }
        Check.refuses(x, "read(0, 1, 3)", WRONG, () -> x.read(0, 1, 3));
        x.write(0, 0, 1, 5);
        Check.same("look(29)", x.look(29), 5);
        x.seal(0, 0, 4);
        Check.refuses(x, "read of a door", STATE, () -> x.read(0, 4, 0));
        Check.refuses(x, "write of a door", STATE, () -> x.write(0, 4, 0, 5));
    }

    private static void revoking() {
        GrantMachine x = machine();
        x.make(1, 0);
        x.steps(1, 10);
        x.grant(1, 2, 0, 5, 5, 7);
        x.load(1, 0, 2, 1, 2, 7);
        x.write(1, 0, 0, 3);
        Check.same("look(16)", x.look(16), 3);
        x.grant(1, 2, 0, 5, 5, 1);
        Check.refuses(x, "write, the right taken", STATE, () -> x.write(1, 0, 0, 4));
        x.region(0, 100, 10);
        Check.same("read where the region is now", x.read(1, 0, 0), 0);
        Check.same("first where the region is now", x.slot(1, 0, 1), 106);
        x.region(0, 0, 0);
        Check.refuses(x, "read, the region taken", STATE, () -> x.read(1, 0, 0));
        slotIs(x, 1, 0, 1, NONE, 0, 0, 2, 1, 2, 7, NONE);
    }

    private static void refining() {
        GrantMachine x = machine();
        x.load(0, 0, 0, 5, 10, 7);
        x.refine(0, 0, 13, 2, 8, 5);
        slotIs(x, 0, 13, 1, 17, 8, 5, 0, 7, 8, 5, NONE);
        slotIs(x, 0, 0, 1, 15, 10, 7, 0, 5, 10, 7, NONE);
        x.refine(0, 13, 13, 3, 5, 4);
        slotIs(x, 0, 13, 1, 20, 5, 4, 0, 10, 5, 4, NONE);
        x.refine(0, 13, 1, 5, 0, 0);
        slotIs(x, 0, 1, 1, NONE, 0, 0, 0, 15, 0, 0, NONE);
        x.refine(0, 0, 2, 0, 10, 7);
        slotIs(x, 0, 2, 1, 15, 10, 7, 0, 5, 10, 7, NONE);
    }

    /** What counts is what a capability has been told, not what its entry lets it reach now. */
    private static void refiningStaysWithinWhatIsTold() {
        GrantMachine x = machine();
        x.load(0, 0, 5, 256, 256, 7);
        x.refine(0, 0, 1, 256, 0, 7);
        slotIs(x, 0, 1, 1, NONE, 0, 0, 5, 512, 0, 7, NONE);
        x.refine(0, 0, 2, 100, 156, 3);
        slotIs(x, 0, 2, 1, NONE, 0, 0, 5, 356, 156, 3, NONE);
    }

    private static void refiningNeedsNoRightToPassOn() {
        GrantMachine x = machine();
        x.load(0, 0, 0, 0, 4, 3);
        x.refine(0, 0, 10, 0, 4, 3);
        slotIs(x, 0, 10, 1, 10, 4, 3, 0, 0, 4, 3, NONE);
    }

    private static void wrongRefining() {
        GrantMachine x = machine();
        x.load(0, 0, 0, 5, 10, 5);
        int most = Integer.MAX_VALUE;
        Check.refuses(x, "from -1", WRONG, () -> x.refine(0, 0, 1, -1, 5, 1));
        Check.refuses(x, "size -1", WRONG, () -> x.refine(0, 0, 1, 1, -1, 1));
        Check.refuses(x, "11 together", WRONG, () -> x.refine(0, 0, 1, 1, 10, 1));
        Check.refuses(x, "from 11, size 0", WRONG, () -> x.refine(0, 0, 1, 11, 0, 1));
        Check.refuses(x, "from and size the most", WRONG, () -> x.refine(0, 0, 1, most, most, 1));
        Check.refuses(x, "from the most", WRONG, () -> x.refine(0, 0, 1, most, 1, 1));
        Check.refuses(x, "size the most", WRONG, () -> x.refine(0, 0, 1, 1, most, 1));
        Check.refuses(x, "rights 2 of 5", WRONG, () -> x.refine(0, 0, 1, 0, 1, 2));
        Check.refuses(x, "rights 7 of 5", WRONG, () -> x.refine(0, 0, 1, 0, 1, 7));
        Check.refuses(x, "rights 8", WRONG, () -> x.refine(0, 0, 1, 0, 1, 8));
        Check.refuses(x, "rights -1", WRONG, () -> x.refine(0, 0, 1, 0, 1, -1));
        Check.refuses(x, "an empty slot", STATE, () -> x.refine(0, 2, 1, 0, 0, 0));
        Check.refuses(x, "an empty slot, from -1", STATE, () -> x.refine(0, 2, 1, -1, 0, 0));
        x.seal(0, 0, 2);
        Check.refuses(x, "a door", STATE, () -> x.refine(0, 2, 1, 0, 0, 0));
    }

    private static void moving() {
        GrantMachine x = machine();
        x.load(0, 0, 0, 5, 10, 3);
        x.move(0, 0, 9);
        slotIs(x, 0, 9, 1, 15, 10, 3, 0, 5, 10, 3, NONE);
        slotIs(x, 0, 0, 1, 15, 10, 3, 0, 5, 10, 3, NONE);
        x.move(0, 0, 0);
        slotIs(x, 0, 0, 1, 15, 10, 3, 0, 5, 10, 3, NONE);
        x.load(0, 0, 0, 0, 1, 1);
        slotIs(x, 0, 9, 1, 15, 10, 3, 0, 5, 10, 3, NONE);
        x.seal(0, 1, 0);
        x.move(0, 0, 9);
        slotIs(x, 0, 9, 2, NONE, NONE, NONE, NONE, NONE, NONE, NONE, 1);
        Check.refuses(x, "move of an empty slot", STATE, () -> x.move(0, 4, 9));
        Check.refuses(x, "move of an empty slot to itself", STATE, () -> x.move(0, 4, 4));
        Check.refuses(x, "move of an empty slot to N", STATE, () -> x.move(0, 4, 10));
    }

    private static void passingOn() {
        GrantMachine x = machine();
        x.make(1, 0);
        x.steps(1, 100);
        x.grant(1, 0, 0, 0, 5, 3);
        x.load(1, 0, 0, 0, 5, 3);
        x.load(1, 1, 0, 0, 5, 4);
        x.seal(1, 0, 2);
        for (int to = 0; to < 14; to++) {
            int target = to;
            if (to >= 10) {
                Check.refuses(x, "move to " + to + " without the right", STATE, () -> x.move(1, 0, target));
                x.move(1, 1, to);
                Check.same("kind of slot " + to, x.slot(1, to, 0), 1);
                x.move(1, 2, to);
                Check.same("kind of slot " + to, x.slot(1, to, 0), 2);
            } else if (to > 2) {
                x.move(1, 0, to);
                Check.same("kind of slot " + to, x.slot(1, to, 0), 1);
            }
        }
        x.load(1, 10, 0, 0, 5, 0);
        Check.refuses(x, "move within N without the right", STATE, () -> x.move(1, 10, 11));
        x.move(1, 10, 6);
        Check.same("kind of slot 6", x.slot(1, 6, 0), 1);
    }

    private static void dropping() {
        GrantMachine x = machine();
        x.load(0, 0, 0, 5, 10, 3);
        x.load(0, 1, 0, 5, 10, 3);
        x.seal(0, 0, 13);
        x.drop(0, 0);
        slotIs(x, 0, 0, 0, NONE, NONE, NONE, NONE, NONE, NONE, NONE, NONE);
        Check.same("kind of slot 1", x.slot(0, 1, 0), 1);
        x.drop(0, 13);
        slotIs(x, 0, 13, 0, NONE, NONE, NONE, NONE, NONE, NONE, NONE, NONE);
        x.drop(0, 13);
        slotIs(x, 0, 13, 0, NONE, NONE, NONE, NONE, NONE, NONE, NONE, NONE);
    }

    /** Process 0 with words 10 .. 29 in its entry 0, and steps. */
    private static GrantMachine machine() {
        GrantMachine x = new GrantMachine();
        x.region(0, 10, 20);
        x.steps(0, 1000);
        return x;
    }

    private static void slotIs(GrantMachine x, int process, int slot, int... due) {
        for (int what = 0; what < due.length; what++) {
            Check.same("slot(" + process + ", " + slot + ", " + what + ")", x.slot(process, slot, what), due[what]);
        }
    }
}
