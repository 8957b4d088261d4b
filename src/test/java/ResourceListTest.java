import java.util.NoSuchElementException;

/** Promises 1 to 4 and 16: a new object, region, make, grant and entry. */
public final class ResourceListTest {
    private static final int NONE = GrantMachine.NONE;

    public static void main(String[] args) {
        newObject();
        regions();
        wrongRegions();
        making();
        makingAnew();
        wrongMaking();
        grants();
        chains();
        emptyEntriesHaveNoRights();
        wrongGrants();
        wrongEntries();
        Check.end();
    }

    private static void newObject() {
        GrantMachine x = new GrantMachine();
        Check.same("steps of process 0", x.about(0, 0), 0);
        Check.same("parent of process 0", x.about(0, 1), NONE);
        Check.same("put by of process 0", x.about(0, 2), 0);
        for (int process = 1; process <= 3; process++) {
            int absent = process;
            Check.refuses(x, "about(" + process + ", 0)", NoSuchElementException.class, () -> x.about(absent, 0));
        }
        for (int entry = 0; entry < 8; entry++) {
            entryIs(x, 0, entry, NONE, 0, 0);
        }
        for (int slot = 0; slot < 14; slot++) {
            Check.same("kind of slot " + slot, x.slot(0, slot, 0), 0);
        }
        for (int word = 0; word < 256; word++) {
            Check.same("word " + word, x.look(word), 0);
            Check.yes("word " + word + " is not reached", !x.reaches(0, word));
        }
    }

    private static void regions() {
        GrantMachine x = new GrantMachine();
        x.region(0, 10, 20);
        entryIs(x, 0, 0, 10, 20, 7);
        x.region(7, 0, 256);
        entryIs(x, 0, 7, 0, 256, 7);
        x.region(1, 255, 1);
        entryIs(x, 0, 1, 255, 1, 7);
        x.region(0, 40, 2);
        entryIs(x, 0, 0, 40, 2, 7);
        x.region(0, 40, 0);
        entryIs(x, 0, 0, NONE, 0, 0);
        x.region(7, 256, 0);
        entryIs(x, 0, 7, NONE, 0, 0);
        entryIs(x, 0, 1, 255, 1, 7);
    }

    private static void wrongRegions() {
        GrantMachine x = new GrantMachine();
        x.region(3, 5, 6);
        Class<IndexOutOfBoundsException> noEntry = IndexOutOfBoundsException.class;
        Class<IllegalArgumentException> wrong = IllegalArgumentException.class;
        Check.refuses(x, "region(-1, 0, 1)", noEntry, () -> x.region(-1, 0, 1));
        Check.refuses(x, "region(8, 0, 1)", noEntry, () -> x.region(8, 0, 1));
        Check.refuses(x, "region(8, -1, 1)", noEntry, () -> x.region(8, -1, 1));
        Check.refuses(x, "region(3, -1, 1)", wrong, () -> x.region(3, -1, 1));
        Check.refuses(x, "region(3, 1, -1)", wrong, () -> x.region(3, 1, -1));
        Check.refuses(x, "region(3, 1, 256)", wrong, () -> x.region(3, 1, 256));
        Check.refuses(x, "region(3, 256, 1)", wrong, () -> x.region(3, 256, 1));
        Check.refuses(x, "region(3, 257, 0)", wrong, () -> x.region(3, 257, 0));
        int most = Integer.MAX_VALUE;
        int least = Integer.MIN_VALUE;
        Check.refuses(x, "region(3, most, most)", wrong, () -> x.region(3, most, most));
        Check.refuses(x, "region(3, most, 1)", wrong, () -> x.region(3, most, 1));
        Check.refuses(x, "region(3, 1, most)", wrong, () -> x.region(3, 1, most));
        Check.refuses(x, "region(3, least, least)", wrong, () -> x.region(3, least, least));
    }

    private static void making() {
        GrantMachine x = new GrantMachine();
        x.make(3, 0);
        Check.same("parent of 3", x.about(3, 1), 0);
        Check.same("steps of 3", x.about(3, 0), 0);
        x.make(1, 0);
        x.make(2, 1);
        Check.same("parent of 2", x.about(2, 1), 1);
        x.make(3, 2);
        Check.same("parent of 3 made anew", x.about(3, 1), 2);
        Check.same("parent of 1", x.about(1, 1), 0);
    }

    private static void makingAnew() {
        GrantMachine x = familyOfThree();
        x.steps(1, 50);
        x.region(0, 0, 9);
        for (int entry = 0; entry < 8; entry++) {
            x.grant(1, entry, 0, 0, 9, 7);
        }
        x.load(1, 0, 4, 0, 9, 7);
        x.seal(1, 0, 13);
        x.enter(1, 13);
        x.seal(1, 0, 13);
        x.make(1, 0);
        Check.same("steps of 1 made anew", x.about(1, 0), 0);
        Check.same("put by of 1 made anew", x.about(1, 2), 0);
        Check.same("slot 13 of 1 made anew", x.slot(1, 13, 0), 0);
        Check.same("slot 0 of 1 made anew", x.slot(1, 0, 0), 0);
        for (int entry = 0; entry < 8; entry++) {
            entryIs(x, 1, entry, NONE, 0, 0);
        }
        Check.yes("1 made anew reaches nothing", !x.reaches(1, 0));
        x.steps(1, 1);
        Check.refuses(x, "back(1)", IllegalStateException.class, () -> x.back(1));
        Check.refuses(x, "about(2, 0), the child's", NoSuchElementException.class, () -> x.about(2, 0));
        Check.refuses(x, "about(3, 0), the grandchild's", NoSuchElementException.class, () -> x.about(3, 0));

        GrantMachine y = new GrantMachine();
        y.make(1, 0);
        y.make(2, 0);
        y.make(3, 1);
        y.make(2, 1);
        Check.same("3 hangs on 1, not on 2", y.about(3, 1), 1);
        y.make(2, 0);
        y.make(1, 0);
        Check.same("2 hangs on 0, not on 1", y.about(2, 1), 0);
        Check.refuses(y, "about(3, 1)", NoSuchElementException.class, () -> y.about(3, 1));
        y.make(3, 2);
        Check.same("3 is made again", y.about(3, 1), 2);
    }

    private static void wrongMaking() {
        GrantMachine x = new GrantMachine();
        x.make(1, 0);
        x.make(3, 1);
        Class<NoSuchElementException> none = NoSuchElementException.class;
        Class<IllegalArgumentException> wrong = IllegalArgumentException.class;
        Check.refuses(x, "make(0, 0)", none, () -> x.make(0, 0));
        Check.refuses(x, "make(4, 0)", none, () -> x.make(4, 0));
        Check.refuses(x, "make(-1, 0)", none, () -> x.make(-1, 0));
        Check.refuses(x, "make(3, 2), 2 not made", none, () -> x.make(3, 2));
        Check.refuses(x, "make(2, 2), 2 not made", none, () -> x.make(2, 2));
        Check.refuses(x, "make(2, -1)", none, () -> x.make(2, -1));
        Check.refuses(x, "make(2, 4)", none, () -> x.make(2, 4));
        Check.refuses(x, "make(1, 1)", wrong, () -> x.make(1, 1));
        Check.refuses(x, "make(1, 3)", wrong, () -> x.make(1, 3));
        Check.refuses(x, "make(2, 3), 2 not made", wrong, () -> x.make(2, 3));
    }

    private static void grants() {
        GrantMachine x = new GrantMachine();
        x.region(2, 100, 50);
        x.make(1, 0);
        x.grant(1, 7, 2, 10, 20, 5);
        entryIs(x, 1, 7, 110, 20, 5);
        x.grant(1, 7, 2, 40, 20, 7);
        entryIs(x, 1, 7, 140, 10, 7);
        x.grant(1, 7, 2, 49, 256, 1);
        entryIs(x, 1, 7, 149, 1, 1);
        x.grant(1, 7, 2, 50, 1, 2);
        entryIs(x, 1, 7, NONE, 0, 2);
        x.grant(1, 7, 2, 256, 256, 4);
        entryIs(x, 1, 7, NONE, 0, 4);
        x.grant(1, 7, 2, 0, 0, 7);
        entryIs(x, 1, 7, NONE, 0, 7);
        x.grant(1, 7, 2, 0, 256, 0);
        entryIs(x, 1, 7, 100, 50, 0);
    }

    private static void chains() {
        GrantMachine x = familyOfThree();
        x.region(0, 100, 100);
        x.grant(1, 1, 0, 10, 50, 7);
        x.grant(2, 2, 1, 10, 30, 6);
        x.grant(3, 3, 2, 10, 100, 3);
        entryIs(x, 3, 3, 130, 20, 2);
        x.grant(1, 1, 0, 20, 25, 7);
        entryIs(x, 3, 3, 140, 5, 2);
        x.region(0, 0, 42);
        entryIs(x, 3, 3, 40, 2, 2);
        x.region(0, 0, 40);
        entryIs(x, 3, 3, NONE, 0, 2);
        x.region(0, 200, 56);
        entryIs(x, 3, 3, 240, 5, 2);
        x.grant(2, 2, 0, 10, 30, 6);
        entryIs(x, 3, 3, NONE, 0, 0);
    }

    private static void emptyEntriesHaveNoRights() {
        GrantMachine x = familyOfThree();
        x.grant(1, 0, 5, 0, 10, 7);
        x.grant(2, 0, 0, 0, 10, 7);
        entryIs(x, 1, 0, NONE, 0, 0);
        entryIs(x, 2, 0, NONE, 0, 0);
        x.region(5, 30, 3);
        entryIs(x, 1, 0, 30, 3, 7);
        entryIs(x, 2, 0, 30, 3, 7);
    }

    private static void wrongGrants() {
        GrantMachine x = new GrantMachine();
        x.make(1, 0);
        Class<NoSuchElementException> none = NoSuchElementException.class;
        Class<IndexOutOfBoundsException> noEntry = IndexOutOfBoundsException.class;
        Class<IllegalArgumentException> wrong = IllegalArgumentException.class;
        Check.refuses(x, "grant of 0", none, () -> x.grant(0, 0, 0, 0, 1, 7));
        Check.refuses(x, "grant of 2, not made", none, () -> x.grant(2, 0, 0, 0, 1, 7));
        Check.refuses(x, "grant of 4", none, () -> x.grant(4, 0, 0, 0, 1, 7));
        Check.refuses(x, "grant of -1", none, () -> x.grant(-1, 0, 0, 0, 1, 7));
        Check.refuses(x, "grant of 0, all wrong", none, () -> x.grant(0, 8, 8, -1, -1, -1));
        Check.refuses(x, "entry 8", noEntry, () -> x.grant(1, 8, 0, 0, 1, 7));
        Check.refuses(x, "entry -1", noEntry, () -> x.grant(1, -1, 0, 0, 1, 7));
        Check.refuses(x, "of 8", noEntry, () -> x.grant(1, 0, 8, 0, 1, 7));
        Check.refuses(x, "of -1", noEntry, () -> x.grant(1, 0, -1, 0, 1, 7));
        Check.refuses(x, "of 8, rights 8", noEntry, () -> x.grant(1, 0, 8, 0, 1, 8));
        Check.refuses(x, "from -1", wrong, () -> x.grant(1, 0, 0, -1, 1, 7));
        Check.refuses(x, "from 257", wrong, () -> x.grant(1, 0, 0, 257, 1, 7));
        Check.refuses(x, "size -1", wrong, () -> x.grant(1, 0, 0, 0, -1, 7));
        Check.refuses(x, "size 257", wrong, () -> x.grant(1, 0, 0, 0, 257, 7));
        Check.refuses(x, "rights -1", wrong, () -> x.grant(1, 0, 0, 0, 1, -1));
        Check.refuses(x, "rights 8", wrong, () -> x.grant(1, 0, 0, 0, 1, 8));
    }

    private static void wrongEntries() {
        GrantMachine x = new GrantMachine();
        Class<IndexOutOfBoundsException> noEntry = IndexOutOfBoundsException.class;
        Class<IllegalArgumentException> wrong = IllegalArgumentException.class;
        Check.refuses(x, "entry(1, 9, 9)", NoSuchElementException.class, () -> x.entry(1, 9, 9));
        Check.refuses(x, "entry(0, 8, 3)", noEntry, () -> x.entry(0, 8, 3));
        Check.refuses(x, "entry(0, -1, 0)", noEntry, () -> x.entry(0, -1, 0));
        Check.refuses(x, "entry(0, 0, 3)", wrong, () -> x.entry(0, 0, 3));
        Check.refuses(x, "entry(0, 0, -1)", wrong, () -> x.entry(0, 0, -1));
    }

    private static GrantMachine familyOfThree() {
        GrantMachine x = new GrantMachine();
        x.make(1, 0);
        x.make(2, 1);
        x.make(3, 2);
        return x;
    }

    private static void entryIs(GrantMachine x, int process, int entry, int first, int count, int rights) {
        String name = "entry " + entry + " of " + process;
        Check.same("first of " + name, x.entry(process, entry, 0), first);
        Check.same("count of " + name, x.entry(process, entry, 1), count);
        Check.same("rights of " + name, x.entry(process, entry, 2), rights);
    }
}
