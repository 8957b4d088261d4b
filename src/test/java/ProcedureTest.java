/** Promises 7, 13 and 14, and the terms SLOTS, PROCEDURES, ENTERING and COMING BACK: seal, enter and back. */
public final class ProcedureTest {
    public static void main(String[] args) {
        sealing();
        theDoorIsNotSealedIn();
        whatIsSealedStays();
        sealingAnew();
        aSealThatIsRefused();
        fourProcedures();
        entering();
        enteringByAnySlot();
        aListEnteredIsACopy();
        enteringByNone();
        comingBack();
        whatIsPutByIsACopy();
        fourTimesPutBy();
        notFiveTimes();
        oneBackAndOneInAgain();
        comingBackWithNonePutBy();
        oneAboveTheOther();
        eachProcessHasItsOwn();
        Check.end();
    }

    /** "A procedure gets what the P list has": slots 0 .. 5 and no others; "a slot gets a door to it". */
    private static void sealing() {
        Run x = marked();
        for (int slot = 0; slot < 14; slot++) {
            Run y = x.branch().does("seal", 0, 3, slot);
            y.slotIsDoor(0, slot, 3);
            for (int other = 0; other < 14; other++) {
                if (other != slot) {
                    hasMark(y, 0, other, 20 + other);
                }
            }
        }
        Run inside = x.branch().does("seal", 0, 3, 9).does("enter", 0, 9);
        for (int slot = 0; slot < 6; slot++) {
            hasMark(inside, 0, slot, 20 + slot);
        }
    }

    private static void theDoorIsNotSealedIn() {
        for (int slot = 0; slot < 6; slot++) {
            Run x = marked().does("seal", 0, 2, slot).does("enter", 0, slot);
            hasMark(x, 0, slot, 20 + slot);
        }
        Run x = machine().does("seal", 0, 0, 5).does("seal", 0, 1, 5).does("enter", 0, 5);
        x.slotIsDoor(0, 5, 0);
    }

    /** What a procedure got is its own: later changes of the P list do not reach it. */
    private static void whatIsSealedStays() {
        Run x = marked().does("seal", 0, 0, 9);
        for (int slot = 0; slot < 6; slot++) {
            x.does("drop", 0, slot);
        }
        x.does("enter", 0, 9);
        for (int slot = 0; slot < 6; slot++) {
            hasMark(x, 0, slot, 20 + slot);
        }
    }

    /** A door leads to a procedure, and so to what that one got last. */
    private static void sealingAnew() {
        Run x = machine();
        mark(x, 0, 0, 1);
        mark(x, 0, 1, 2);
        x.does("seal", 0, 0, 6);
        mark(x, 0, 0, 3);
        x.does("drop", 0, 1).does("seal", 0, 0, 7);
        mark(x, 0, 0, 4);
        x.does("enter", 0, 6);
        hasMark(x, 0, 0, 3);
        x.slotIsEmpty(0, 1);
    }

    private static void aSealThatIsRefused() {
        Run x = machine().does("seal", 0, 2, 13).does("seal", 0, 0, 12);
        mark(x, 0, 0, 9);
        for (int wrong : new int[] {-1, 14, Integer.MIN_VALUE, Integer.MAX_VALUE}) {
            x.outOfBounds("seal", 0, 2, wrong);
        }
        for (int wrong : new int[] {-1, 4, Integer.MIN_VALUE, Integer.MAX_VALUE}) {
            x.outOfBounds("seal", 0, wrong, 0);
        }
        x.noSuchElement("seal", 1, 4, 14);
    }

    /** "Each has up to four PROCEDURES, 0 .. 3, each with a P list of six slots." */
    private static void fourProcedures() {
        Run x = machine();
        for (int procedure = 0; procedure < 4; procedure++) {
            for (int slot = 0; slot < 6; slot++) {
                mark(x, 0, slot, 10 * procedure + slot);
            }
            x.does("seal", 0, procedure, 6 + procedure);
        }
        for (int procedure = 0; procedure < 4; procedure++) {
            Run y = x.branch();
            y.answers(1, "enter", 0, 6 + procedure);
            for (int slot = 0; slot < 6; slot++) {
                hasMark(y, 0, slot, 10 * procedure + slot);
            }
        }
    }

    /** "P becomes the procedure's list (a copy), A becomes what N was, N is empty then." */
    private static void entering() {
        Run x = marked().does("seal", 0, 1, 9);
        for (int slot = 0; slot < 6; slot++) {
            mark(x, 0, slot, 40 + slot);
        }
        x.answers(1, "enter", 0, 9);
        x.answers(1, "about", 0, 2);
        for (int slot = 0; slot < 6; slot++) {
            hasMark(x, 0, slot, 20 + slot);
        }
        for (int slot = 6; slot < 10; slot++) {
            hasMark(x, 0, slot, 20 + slot + 4);
        }
        for (int slot = 10; slot < 14; slot++) {
            x.slotIsEmpty(0, slot);
        }
        Run none = machine().does("seal", 0, 0, 9).does("enter", 0, 9);
        for (int slot = 0; slot < 14; slot++) {
            none.slotIsEmpty(0, slot);
        }
    }

    private static void enteringByAnySlot() {
        for (int slot = 0; slot < 14; slot++) {
            Run x = machine();
            mark(x, 0, 3, 33);
            x.does("seal", 0, 0, slot);
            x.answers(1, "enter", 0, slot);
            hasMark(x, 0, 3, 33);
            x.answers(slot >= 10 ? 2 : 0, "slot", 0, slot >= 10 ? slot - 4 : 6, 0);
        }
    }

    /** "(a copy)": what is done in the procedure does not change its list. */
    private static void aListEnteredIsACopy() {
        Run x = machine();
        mark(x, 0, 0, 1);
        x.does("seal", 0, 0, 10).does("move", 0, 10, 11);
        x.does("enter", 0, 10).does("drop", 0, 0);
        mark(x, 0, 1, 4);
        Run inside = x.branch().does("enter", 0, 6);
        hasMark(inside, 0, 0, 1);
        inside.slotIsEmpty(0, 1);
        Run backAndIn = x.branch().does("back", 0).does("enter", 0, 10);
        hasMark(backAndIn, 0, 0, 1);
        backAndIn.slotIsEmpty(0, 1);
    }

    /** "IllegalStateException if the slot has none" */
    private static void enteringByNone() {
        Run x = machine().does("seal", 0, 0, 5);
        mark(x, 0, 0, 1);
        x.illegalState("enter", 0, 0);
        x.illegalState("enter", 0, 1);
        x.illegalState("enter", 0, 13);
        x.does("drop", 0, 5);
        x.illegalState("enter", 0, 5);
    }

    /** "P becomes what was put by last; N becomes what A is now; A becomes what was put by." */
    private static void comingBack() {
        Run x = marked().does("seal", 0, 1, 0).does("enter", 0, 0);
        mark(x, 0, 6, 66);
        x.does("drop", 0, 7);
        mark(x, 0, 8, 77);
        mark(x, 0, 3, 88);
        mark(x, 0, 12, 99);
        x.answers(0, "back", 0);
        x.answers(0, "about", 0, 2);
        x.slotIsDoor(0, 0, 1);
        for (int slot = 1; slot < 10; slot++) {
            hasMark(x, 0, slot, 20 + slot);
        }
        hasMark(x, 0, 10, 66);
        x.slotIsEmpty(0, 11);
        hasMark(x, 0, 12, 77);
        hasMark(x, 0, 13, 20 + 13);
    }

    private static void whatIsPutByIsACopy() {
        Run x = marked().does("seal", 0, 0, 5).does("enter", 0, 5);
        for (int slot = 0; slot < 14; slot++) {
            x.does("drop", 0, slot);
        }
        x.does("back", 0);
        for (int slot = 0; slot < 5; slot++) {
            hasMark(x, 0, slot, 20 + slot);
        }
        x.slotIsDoor(0, 5, 0);
        for (int slot = 6; slot < 10; slot++) {
            hasMark(x, 0, slot, 20 + slot);
        }
        for (int slot = 10; slot < 14; slot++) {
            x.slotIsEmpty(0, slot);
        }
    }

    /** "(at most four times, one above the other)" */
    private static void fourTimesPutBy() {
        Run x = fourDeep();
        x.answers(4, "about", 0, 2);
        for (int level = 3; level >= 0; level--) {
            x.answers(level, "back", 0);
            x.answers(level, "about", 0, 2);
            hasMark(x, 0, 1, 30 + level);
            hasMark(x, 0, 5, 40 + level);
            hasMark(x, 0, 6, 50 + level);
            hasMark(x, 0, 9, 60 + level);
        }
    }

    /** "or four are put by" */
    private static void notFiveTimes() {
        Run x = fourDeep();
        for (int slot = 0; slot < 14; slot++) {
            Run y = x.branch().does("seal", 0, 0, slot);
            y.illegalState("enter", 0, slot);
        }
        x.illegalState("enter", 0, 13);
    }

    private static void oneBackAndOneInAgain() {
        Run x = fourDeep();
        x.answers(3, "back", 0);
        x.answers(4, "enter", 0, 2);
        x.does("seal", 0, 0, 2);
        x.illegalState("enter", 0, 2);
        x.answers(3, "back", 0);
        hasMark(x, 0, 1, 33);
    }

    /** "IllegalStateException if none are." */
    private static void comingBackWithNonePutBy() {
        Run x = marked();
        x.illegalState("back", 0);
        x.does("seal", 0, 0, 5).does("enter", 0, 5);
        x.answers(0, "back", 0);
        x.illegalState("back", 0);
        Run y = fourDeep().does("back", 0).does("back", 0).does("back", 0).does("back", 0);
        y.illegalState("back", 0);
    }

    /** What is passed on goes in by N and A, level for level, and comes back by A and N. */
    private static void oneAboveTheOther() {
        Run x = machine().does("seal", 0, 0, 10);
        mark(x, 0, 11, 1);
        x.does("enter", 0, 10).does("move", 0, 6, 10);
        mark(x, 0, 13, 2);
        x.does("enter", 0, 10);
        x.slotIsDoor(0, 6, 0);
        x.slotIsEmpty(0, 7);
        hasMark(x, 0, 9, 2);
        mark(x, 0, 8, 3);
        x.answers(1, "back", 0);
        hasMark(x, 0, 7, 1);
        x.slotIsEmpty(0, 8);
        hasMark(x, 0, 12, 3);
        hasMark(x, 0, 13, 2);
        x.answers(0, "back", 0);
        x.slotIsEmpty(0, 6);
        x.slotIsDoor(0, 10, 0);
        hasMark(x, 0, 11, 1);
        x.slotIsEmpty(0, 12);
        x.slotIsEmpty(0, 13);
    }

    private static void eachProcessHasItsOwn() {
        Run x = machine().does("make", 1, 0).does("steps", 1, 10);
        mark(x, 0, 0, 5);
        mark(x, 1, 0, 6);
        x.does("seal", 0, 0, 1).does("seal", 1, 0, 1);
        mark(x, 1, 0, 7);
        x.answers(1, "enter", 1, 1);
        hasMark(x, 1, 0, 6);
        x.answers(1, "about", 1, 2);
        x.answers(0, "about", 0, 2);
        hasMark(x, 0, 0, 5);
        x.illegalState("back", 0);
        x.answers(1, "enter", 0, 1);
        hasMark(x, 0, 0, 5);
        x.answers(0, "back", 1);
        x.answers(1, "about", 0, 2);
        hasMark(x, 1, 0, 7);
    }

    /**
     * Process 0 with lists put by four times; the marks in slots 1, 5, 6 and 9 tell the levels, and the one in slot 0
     * the procedures; slot 2 has a door.
     */
    private static Run fourDeep() {
        Run x = machine();
        for (int level = 0; level < 4; level++) {
            mark(x, 0, 0, 70 + level);
            x.does("seal", 0, level, 2);
            mark(x, 0, 1, 30 + level);
            mark(x, 0, 5, 40 + level);
            mark(x, 0, 6, 50 + level);
            mark(x, 0, 9, 60 + level);
            x.answers(level + 1, "enter", 0, 2);
        }
        return x;
    }

    private static Run machine() {
        return new Run().does("steps", 0, 100);
    }

    /** Process 0 with a mark of its own in each slot. */
    private static Run marked() {
        Run x = machine();
        for (int slot = 0; slot < 14; slot++) {
            mark(x, 0, slot, 20 + slot);
        }
        return x;
    }

    /** A capability that is told from others by its size. */
    private static void mark(Run x, int process, int slot, int size) {
        x.does("load", process, slot, 0, 0, size, 7);
    }

    private static void hasMark(Run x, int process, int slot, int size) {
        x.answers(1, "slot", process, slot, 0);
        x.answers(size, "slot", process, slot, 6);
    }
}
