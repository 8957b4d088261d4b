import java.util.NoSuchElementException;

/** Promises 7, 13 and 14: seal, enter and back. */
public final class ProcedureTest {
    public static void main(String[] args) {
        sealing();
        wrongSealing();
        entering();
        aDoorLeadsToWhatIsSealedLast();
        aListEnteredIsACopy();
        comingBack();
        atMostFour();
        wrongEnteringAndComingBack();
        eachProcessHasItsOwn();
        Check.end();
    }

    private static void sealing() {
        GrantMachine x = machine();
        mark(x, 0, 1);
        mark(x, 5, 6);
        x.seal(0, 3, 5);
        Check.same("kind of slot 5", x.slot(0, 5, 0), 2);
        Check.same("procedure of slot 5", x.slot(0, 5, 8), 3);
        Check.same("slot 0 stays", x.slot(0, 0, 6), 1);
        x.enter(0, 5);
        Check.same("slot 0 in the procedure", x.slot(0, 0, 6), 1);
        Check.same("slot 5 in the procedure, as before its door", x.slot(0, 5, 6), 6);
        Check.same("slot 1 in the procedure", x.slot(0, 1, 0), 0);
    }

    private static void wrongSealing() {
        GrantMachine x = machine();
        Check.refuses(x, "seal(1, 4, 14)", NoSuchElementException.class, () -> x.seal(1, 4, 14));
        Check.refuses(x, "seal(4, 0, 0)", NoSuchElementException.class, () -> x.seal(4, 0, 0));
        Check.refuses(x, "seal(0, 4, 0)", IndexOutOfBoundsException.class, () -> x.seal(0, 4, 0));
        Check.refuses(x, "seal(0, -1, 0)", IndexOutOfBoundsException.class, () -> x.seal(0, -1, 0));
        Check.refuses(x, "seal(0, 0, 14)", IndexOutOfBoundsException.class, () -> x.seal(0, 0, 14));
        Check.refuses(x, "seal(0, 0, -1)", IndexOutOfBoundsException.class, () -> x.seal(0, 0, -1));
        // A refused seal must not have changed the procedure either.
        x.seal(0, 2, 13);
        mark(x, 0, 9);
        Check.refuses(x, "seal(0, 2, 14)", IndexOutOfBoundsException.class, () -> x.seal(0, 2, 14));
        x.enter(0, 13);
        Check.same("kind of slot 0 in the procedure", x.slot(0, 0, 0), 0);
    }

    private static void entering() {
        GrantMachine x = machine();
        x.seal(0, 1, 0);
        for (int slot = 1; slot < 14; slot++) {
            mark(x, slot, 10 + slot);
        }
        Check.same("enter(0, 0)", x.enter(0, 0), 1);
        Check.same("put by", x.about(0, 2), 1);
        for (int slot = 0; slot < 6; slot++) {
            Check.same("kind of slot " + slot, x.slot(0, slot, 0), 0);
        }
        for (int slot = 6; slot < 10; slot++) {
            Check.same("A list, slot " + slot, x.slot(0, slot, 6), 10 + slot + 4);
        }
        for (int slot = 10; slot < 14; slot++) {
            Check.same("kind of slot " + slot, x.slot(0, slot, 0), 0);
        }
    }

    private static void aDoorLeadsToWhatIsSealedLast() {
        GrantMachine x = machine();
        mark(x, 0, 1);
        x.seal(0, 0, 6);
        mark(x, 0, 2);
        x.seal(0, 0, 7);
        mark(x, 0, 3);
        x.enter(0, 6);
        Check.same("slot 0 in the procedure", x.slot(0, 0, 6), 2);
    }

    private static void aListEnteredIsACopy() {
        GrantMachine x = machine();
        mark(x, 0, 1);
        x.seal(0, 0, 10);
        x.move(0, 10, 11);
        x.enter(0, 10);
        x.drop(0, 0);
        mark(x, 1, 4);
        x.enter(0, 6);
        Check.same("slot 0, entered again", x.slot(0, 0, 6), 1);
        Check.same("slot 1, entered again", x.slot(0, 1, 0), 0);
    }

    private static void comingBack() {
        GrantMachine x = machine();
        x.seal(0, 1, 0);
        for (int slot = 1; slot < 14; slot++) {
            mark(x, slot, 10 + slot);
        }
        x.enter(0, 0);
        mark(x, 6, 66);
        x.drop(0, 7);
        mark(x, 8, 77);
        mark(x, 3, 88);
        mark(x, 12, 99);
        Check.same("back(0)", x.back(0), 0);
        Check.same("put by", x.about(0, 2), 0);
        Check.same("slot 0 again", x.slot(0, 0, 0), 2);
        for (int slot = 1; slot < 10; slot++) {
            Check.same("slot " + slot + " again", x.slot(0, slot, 6), 10 + slot);
        }
        Check.same("slot 10, loaded in A", x.slot(0, 10, 6), 66);
        Check.same("slot 11, dropped in A", x.slot(0, 11, 0), 0);
        Check.same("slot 12, loaded in A", x.slot(0, 12, 6), 77);
        Check.same("slot 13, what A had", x.slot(0, 13, 6), 23);
    }

    private static void atMostFour() {
        GrantMachine x = machine();
        for (int procedure = 0; procedure < 4; procedure++) {
            mark(x, 0, procedure + 1);
            x.seal(0, procedure, 1);
        }
        // From here on each level is told from the others by the size in its slots 0 and 9.
        for (int level = 0; level < 4; level++) {
            mark(x, 9, 50 + level);
            x.seal(0, 3, 2);
            mark(x, 0, 30 + level);
            Check.same("enter at level " + level, x.enter(0, 2), level + 1);
        }
        x.seal(0, 3, 2);
        Check.refuses(x, "enter with four put by", IllegalStateException.class, () -> x.enter(0, 2));
        Check.refuses(x, "enter by none with four put by", IllegalStateException.class, () -> x.enter(0, 13));
        for (int level = 3; level >= 0; level--) {
            Check.same("back to level " + level, x.back(0), level);
            Check.same("put by at level " + level, x.about(0, 2), level);
            Check.same("slot 0 at level " + level, x.slot(0, 0, 6), 30 + level);
            Check.same("slot 9 at level " + level, x.slot(0, 9, 6), 50 + level);
        }
        Check.same("enter again", x.enter(0, 1), 1);
    }

    private static void wrongEnteringAndComingBack() {
        GrantMachine x = machine();
        mark(x, 0, 1);
        Check.refuses(x, "enter by memory", IllegalStateException.class, () -> x.enter(0, 0));
        Check.refuses(x, "enter by an empty slot", IllegalStateException.class, () -> x.enter(0, 1));
        Check.refuses(x, "enter by slot 14", IndexOutOfBoundsException.class, () -> x.enter(0, 14));
        Check.refuses(x, "enter of process 1", NoSuchElementException.class, () -> x.enter(1, 0));
        Check.refuses(x, "back", IllegalStateException.class, () -> x.back(0));
        Check.refuses(x, "back of process 1", NoSuchElementException.class, () -> x.back(1));
        Check.refuses(x, "back of process 4", NoSuchElementException.class, () -> x.back(4));
        Check.refuses(x, "back of process -1", NoSuchElementException.class, () -> x.back(-1));
    }

    private static void eachProcessHasItsOwn() {
        GrantMachine x = machine();
        x.make(1, 0);
        x.steps(1, 10);
        mark(x, 0, 5);
        x.seal(0, 0, 1);
        x.seal(1, 0, 1);
        x.enter(1, 1);
        Check.same("slot 0 of 1 in its procedure", x.slot(1, 0, 0), 0);
        Check.same("put by of 0", x.about(0, 2), 0);
        Check.same("put by of 1", x.about(1, 2), 1);
        Check.same("slot 0 of 0", x.slot(0, 0, 6), 5);
        x.enter(0, 1);
        Check.same("slot 0 of 0 in its procedure", x.slot(0, 0, 6), 5);
    }

    private static GrantMachine machine() {
        GrantMachine x = new GrantMachine();
        x.steps(0, 1000);
        return x;
    }

    /** A capability that is told from others by its size. */
    private static void mark(GrantMachine x, int slot, int size) {
        x.load(0, slot, 0, 0, size, 7);
    }
}
