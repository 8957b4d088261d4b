/** Promises 1 to 4 and 16, and the terms of processes and entries: a new object, region, make, grant and entry. */
public final class ResourceListTest {
    private static final int NONE = GrantMachine.NONE;
    private static final int LEAST = Integer.MIN_VALUE;
    private static final int MOST = Integer.MAX_VALUE;

    public static void main(String[] args) {
        aNewObject();
        regions();
        regionsOfSizeZero();
        regionsThatDoNotFit();
        making();
        makingAnew();
        childrenAreMadeNoMore();
        othersStayMade();
        aChildMadeNoMoreIsMadeAgain();
        wrongProcesses();
        wrongParents();
        parentsOfNoLesserNumber();
        grants();
        grantsNameTheParentsList();
        grantsToProcessZero();
        wrongGrants();
        fromIsCounted();
        sizeOrAsManyAsThereAre();
        fromAndSizeTogether();
        fewerWordsThroughAChain();
        rightsThatBothHave();
        emptyEntries();
        entriesThatNameEmptyOnes();
        entriesWithoutWordsAreNotEmpty();
        aChangeIsSeenByAllThatHangOnIt();
        wrongWhats();
        Check.end();
    }

    /** "Process 0 alone, all lists empty, no steps." */
    private static void aNewObject() {
        Run x = new Run();
        x.answers(0, "about", 0, 0);
        x.answers(NONE, "about", 0, 1);
        x.answers(0, "about", 0, 2);
        hasEmptyLists(x, 0);
        for (int process = 1; process <= 3; process++) {
            x.noSuchElement("about", process, 0);
        }
    }

    /** "An entry of process 0 becomes a region"; it reaches "its words, with all rights (7)". */
    private static void regions() {
        Run x = new Run();
        for (int entry = 0; entry < 8; entry++) {
            x.does("region", entry, 10 * entry, entry + 1);
        }
        for (int entry = 0; entry < 8; entry++) {
            x.entryIs(0, entry, 10 * entry, entry + 1, 7);
        }
        x.does("region", 3, 200, 2);
        x.entryIs(0, 3, 200, 2, 7);
        x.entryIs(0, 2, 20, 3, 7);
        x.entryIs(0, 4, 40, 5, 7);
    }

    /** "(size 0: empty)" */
    private static void regionsOfSizeZero() {
        for (int first : new int[] {0, 10, 255, 256}) {
            Run x = new Run().does("region", 0, 10, 1).does("region", 1, 10, 20);
            x.does("region", 0, first, 0);
            x.entryIsEmpty(0, 0);
            x.entryIs(0, 1, 10, 20, 7);
            x.does("region", 0, 10, 1);
            x.entryIs(0, 0, 10, 1, 7);
        }
    }

    /** "IllegalArgumentException if first is below 0, size is below 0, or both together are above 256." */
    private static void regionsThatDoNotFit() {
        Run x = new Run().does("region", 3, 5, 6);
        for (int first : new int[] {0, 1, 100, 254, 255}) {
            Run y = x.branch().does("region", 3, first, 256 - first);
            y.entryIs(0, 3, first, 256 - first, 7);
            x.illegalArgument("region", 3, first, 257 - first);
        }
        x.branch().does("region", 3, 0, 1).entryIs(0, 3, 0, 1, 7);
        x.illegalArgument("region", 3, 256, 1);
        x.illegalArgument("region", 3, 257, 0);
        for (int below : new int[] {-1, -256, LEAST}) {
            x.illegalArgument("region", 3, below, 1);
            x.illegalArgument("region", 3, below, 0);
            x.illegalArgument("region", 3, 1, below);
            x.illegalArgument("region", 3, 256, below);
            x.illegalArgument("region", 3, below, below);
            x.illegalArgument("region", 3, MOST, below);
            x.illegalArgument("region", 3, below, MOST);
        }
        // Together these wrap around to a number that is not above 256.
        x.illegalArgument("region", 3, MOST, 1);
        x.illegalArgument("region", 3, 1, MOST);
        x.illegalArgument("region", 3, MOST, MOST);
    }

    /** "A process is made": "each with a PARENT of a lesser number". */
    private static void making() {
        for (int process = 1; process <= 3; process++) {
            for (int parent = 0; parent < process; parent++) {
                Run x = new Run();
                if (parent != 0) {
                    x.does("make", parent, 0);
                }
                x.does("make", process, parent);
                x.answers(0, "about", process, 0);
                x.answers(parent, "about", process, 1);
                x.answers(0, "about", process, 2);
                hasEmptyLists(x, process);
            }
        }
    }

    /** "or made anew: lists, procedures and slots empty, no steps" */
    private static void makingAnew() {
        Run x = new Run().does("region", 0, 0, 9).does("make", 1, 0).does("steps", 1, 50);
        for (int entry = 0; entry < 8; entry++) {
            x.does("grant", 1, entry, 0, 0, 9, 7);
        }
        x.does("seal", 1, 0, 12).does("enter", 1, 12);
        for (int slot = 0; slot < 14; slot++) {
            x.does("load", 1, slot, 4, 0, 9, 7);
        }
        x.does("write", 1, 0, 5, 77);
        x.does("make", 1, 0);
        x.answers(0, "about", 1, 0);
        x.answers(0, "about", 1, 1);
        x.answers(0, "about", 1, 2);
        hasEmptyLists(x, 1);
        x.answers(false, "reaches", 1, 5);
        x.answers(77, "look", 5);
        x.entryIs(0, 0, 0, 9, 7);
        x.does("steps", 1, 1);
        x.illegalState("back", 1);

        Run y = family().does("make", 3, 0);
        y.answers(0, "about", 3, 1);
        y.does("make", 3, 1);
        y.answers(1, "about", 3, 1);
    }

    /** "those whose parent it is are made no more (and so on)" */
    private static void childrenAreMadeNoMore() {
        Run x = family().does("make", 1, 0);
        x.noSuchElement("about", 2, 0);
        x.noSuchElement("about", 3, 0);

        Run y = family().does("make", 2, 1);
        y.noSuchElement("about", 3, 0);
        y.answers(1, "about", 2, 1);
        y.answers(0, "about", 1, 1);

        Run z = new Run().does("make", 1, 0).does("make", 2, 1).does("make", 3, 1).does("make", 1, 0);
        z.noSuchElement("about", 2, 0);
        z.noSuchElement("about", 3, 0);
    }

    /** Only those whose parent it is: not its parent, nor those of another parent, whatever their numbers. */
    private static void othersStayMade() {
        Run x = new Run().does("make", 1, 0).does("make", 2, 0).does("make", 3, 1);
        x.does("steps", 1, 11).does("steps", 2, 22).does("steps", 3, 33);
        Run y = x.branch().does("make", 2, 1);
        y.answers(33, "about", 3, 0);
        y.answers(1, "about", 3, 1);
        y.answers(11, "about", 1, 0);
        Run z = x.branch().does("make", 1, 0);
        z.answers(22, "about", 2, 0);
        z.answers(0, "about", 2, 1);
        z.noSuchElement("about", 3, 0);
        Run last = family().does("steps", 1, 11).does("steps", 2, 22).does("make", 3, 2);
        last.answers(11, "about", 1, 0);
        last.answers(22, "about", 2, 0);
        last.answers(2, "about", 3, 1);
    }

    private static void aChildMadeNoMoreIsMadeAgain() {
        Run x = family().does("region", 0, 0, 9).does("steps", 2, 5).does("grant", 2, 0, 0, 0, 9, 7);
        x.does("load", 2, 0, 0, 0, 9, 7).does("seal", 2, 0, 6).does("enter", 2, 6).does("make", 1, 0);
        x.noSuchElement("make", 3, 2);
        x.does("make", 2, 0);
        x.answers(0, "about", 2, 0);
        x.answers(0, "about", 2, 1);
        x.answers(0, "about", 2, 2);
        hasEmptyLists(x, 2);
        x.noSuchElement("about", 3, 0);
        x.does("make", 3, 2);
        x.answers(2, "about", 3, 1);
    }

    /** "NoSuchElementException if there is no such process (1 .. 3)" */
    private static void wrongProcesses() {
        Run x = family();
        for (int process : new int[] {0, -1, 4, LEAST, MOST}) {
            x.noSuchElement("make", process, 0);
            x.noSuchElement("make", process, -1);
            x.noSuchElement("make", process, 3);
        }
    }

    /** "or no such parent": one that isn't made is none, whatever its number. */
    private static void wrongParents() {
        Run x = new Run().does("make", 2, 0);
        for (int parent : new int[] {-1, 1, 3, 4, LEAST, MOST}) {
            x.noSuchElement("make", 2, parent);
        }
        Run y = new Run();
        y.noSuchElement("make", 2, 2);
        y.noSuchElement("make", 2, 1);
        y.noSuchElement("make", 3, 3);
    }

    /** "IllegalArgumentException if the parent's number isn't less." */
    private static void parentsOfNoLesserNumber() {
        Run x = family();
        x.illegalArgument("make", 1, 1);
        x.illegalArgument("make", 1, 2);
        x.illegalArgument("make", 1, 3);
        x.illegalArgument("make", 2, 2);
        x.illegalArgument("make", 2, 3);
        x.illegalArgument("make", 3, 3);
        Run y = new Run().does("make", 3, 0);
        y.illegalArgument("make", 1, 3);
        y.illegalArgument("make", 2, 3);
    }

    /** "An entry of a process (not 0) names one of its parent's list." */
    private static void grants() {
        Run x = new Run().does("make", 1, 0);
        for (int entry = 0; entry < 8; entry++) {
            x.does("region", entry, 10 * entry, 10);
            x.does("grant", 1, entry, 7 - entry, 1, 2, 3);
        }
        for (int entry = 0; entry < 8; entry++) {
            x.entryIs(1, entry, 10 * (7 - entry) + 1, 2, 3);
            x.entryIs(0, entry, 10 * entry, 10, 7);
        }
        x.does("grant", 1, 3, 5, 0, 256, 1);
        x.entryIs(1, 3, 50, 10, 1);
        x.entryIs(1, 2, 51, 2, 3);
        x.entryIs(1, 4, 31, 2, 3);
    }

    private static void grantsNameTheParentsList() {
        Run x = family().does("region", 0, 0, 10).does("region", 1, 100, 10);
        x.does("grant", 1, 0, 1, 2, 5, 7).does("grant", 2, 1, 0, 1, 9, 7).does("grant", 3, 0, 1, 1, 9, 7);
        x.entryIs(2, 1, 103, 4, 7);
        x.entryIs(3, 0, 104, 3, 7);
        Run y = x.branch().does("make", 3, 0).does("grant", 3, 0, 1, 1, 9, 7);
        y.entryIs(3, 0, 101, 9, 7);
    }

    /** "NoSuchElementException also for process 0" */
    private static void grantsToProcessZero() {
        Run x = family().does("region", 0, 0, 10);
        x.noSuchElement("grant", 0, 0, 0, 0, 1, 7);
        x.noSuchElement("grant", 0, 8, 8, 257, 257, 8);
        x.does("grant", 1, 0, 0, 0, 1, 7);
    }

    /** "IllegalArgumentException if from or size is not 0 .. 256, or rights not 0 .. 7." */
    private static void wrongGrants() {
        Run x = new Run().does("region", 0, 0, 256).does("make", 1, 0).does("grant", 1, 0, 0, 3, 4, 5);
        x.branch().does("grant", 1, 0, 0, 0, 256, 7).entryIs(1, 0, 0, 256, 7);
        x.branch().does("grant", 1, 0, 0, 256, 0, 0).entryIs(1, 0, NONE, 0, 0);
        x.branch().does("grant", 1, 0, 0, 256, 256, 7).entryIs(1, 0, NONE, 0, 7);
        x.branch().does("grant", 1, 0, 0, 0, 0, 7).entryIs(1, 0, NONE, 0, 7);
        for (int wrong : new int[] {-1, 257, LEAST, MOST}) {
            x.illegalArgument("grant", 1, 0, 0, wrong, 1, 7);
            x.illegalArgument("grant", 1, 0, 0, 0, wrong, 7);
        }
        for (int wrong : new int[] {-1, 8, LEAST, MOST}) {
            x.illegalArgument("grant", 1, 0, 0, 0, 1, wrong);
        }
    }

    /** "of the words that that one reaches, those from the from-th on (0 the first)" */
    private static void fromIsCounted() {
        Run x = new Run().does("region", 0, 100, 10).does("make", 1, 0);
        x.branch().does("grant", 1, 0, 0, 0, 3, 7).entryIs(1, 0, 100, 3, 7);
        x.branch().does("grant", 1, 0, 0, 1, 3, 7).entryIs(1, 0, 101, 3, 7);
        x.branch().does("grant", 1, 0, 0, 9, 3, 7).entryIs(1, 0, 109, 1, 7);
        x.branch().does("grant", 1, 0, 0, 10, 3, 7).entryIs(1, 0, NONE, 0, 7);
        x.branch().does("grant", 1, 0, 0, 11, 3, 7).entryIs(1, 0, NONE, 0, 7);
        x.branch().does("grant", 1, 0, 0, 256, 3, 7).entryIs(1, 0, NONE, 0, 7);
    }

    /** "as many as the size says, or as there are" */
    private static void sizeOrAsManyAsThereAre() {
        Run x = new Run().does("region", 0, 100, 10).does("make", 1, 0);
        x.branch().does("grant", 1, 0, 0, 0, 0, 7).entryIs(1, 0, NONE, 0, 7);
        x.branch().does("grant", 1, 0, 0, 0, 1, 7).entryIs(1, 0, 100, 1, 7);
        x.branch().does("grant", 1, 0, 0, 0, 9, 7).entryIs(1, 0, 100, 9, 7);
        x.branch().does("grant", 1, 0, 0, 0, 10, 7).entryIs(1, 0, 100, 10, 7);
        x.branch().does("grant", 1, 0, 0, 0, 11, 7).entryIs(1, 0, 100, 10, 7);
        x.branch().does("grant", 1, 0, 0, 0, 256, 7).entryIs(1, 0, 100, 10, 7);
    }

    private static void fromAndSizeTogether() {
        Run x = new Run().does("region", 0, 246, 10).does("make", 1, 0);
        x.branch().does("grant", 1, 0, 0, 4, 5, 7).entryIs(1, 0, 250, 5, 7);
        x.branch().does("grant", 1, 0, 0, 4, 6, 7).entryIs(1, 0, 250, 6, 7);
        x.branch().does("grant", 1, 0, 0, 4, 7, 7).entryIs(1, 0, 250, 6, 7);
        x.branch().does("grant", 1, 0, 0, 9, 256, 7).entryIs(1, 0, 255, 1, 7);
        x.branch().does("grant", 1, 0, 0, 10, 256, 7).entryIs(1, 0, NONE, 0, 7);
    }

    /** Each counts within what the one that it names reaches, not within what that one's size says. */
    private static void fewerWordsThroughAChain() {
        Run x = family().does("region", 0, 100, 30).does("grant", 1, 1, 0, 10, 50, 7);
        x.does("grant", 2, 2, 1, 5, 50, 7).does("grant", 3, 3, 2, 4, 8, 7);
        x.entryIs(1, 1, 110, 20, 7);
        x.entryIs(2, 2, 115, 15, 7);
        x.entryIs(3, 3, 119, 8, 7);
        Run less = x.branch().does("region", 0, 0, 26);
        less.entryIs(3, 3, 19, 7, 7);
        Run one = x.branch().does("region", 0, 0, 20);
        one.entryIs(2, 2, 15, 5, 7);
        one.entryIs(3, 3, 19, 1, 7);
        Run none = x.branch().does("region", 0, 0, 19);
        none.entryIs(2, 2, 15, 4, 7);
        none.entryIs(3, 3, NONE, 0, 7);
        Run cut = x.branch().does("grant", 2, 2, 1, 5, 6, 7);
        cut.entryIs(3, 3, 119, 2, 7);
    }

    /** "the rights are those that both have" */
    private static void rightsThatBothHave() {
        Run x = family().does("region", 0, 0, 9);
        for (int one = 0; one <= 7; one++) {
            for (int other = 0; other <= 7; other++) {
                Run y = x.branch().does("grant", 1, 0, 0, 0, 9, one).does("grant", 2, 0, 0, 0, 9, other);
                y.entryIs(1, 0, 0, 9, one);
                y.entryIs(2, 0, 0, 9, one & other);
                y.does("grant", 3, 0, 0, 0, 9, 5).entryIs(3, 0, 0, 9, one & other & 5);
            }
        }
    }

    /** "An empty entry ... reaches no words, and has no rights." */
    private static void emptyEntries() {
        Run x = family().does("region", 0, 0, 9).does("grant", 1, 0, 0, 0, 9, 7);
        for (int entry = 1; entry < 8; entry++) {
            x.entryIsEmpty(0, entry);
            x.entryIsEmpty(1, entry);
        }
        x.entryIsEmpty(2, 0);
        x.does("region", 0, 9, 0);
        x.entryIsEmpty(0, 0);
    }

    /** "and one that names an empty one" */
    private static void entriesThatNameEmptyOnes() {
        Run x = family().does("grant", 1, 0, 5, 0, 10, 7).does("grant", 2, 0, 0, 0, 10, 7);
        x.does("grant", 3, 0, 0, 0, 10, 7).does("grant", 3, 1, 1, 0, 10, 7);
        x.entryIsEmpty(1, 0);
        x.entryIsEmpty(2, 0);
        x.entryIsEmpty(3, 0);
        x.entryIsEmpty(3, 1);
        x.does("region", 5, 30, 3);
        x.entryIs(1, 0, 30, 3, 7);
        x.entryIs(2, 0, 30, 3, 7);
        x.entryIs(3, 0, 30, 3, 7);
        x.entryIsEmpty(3, 1);
        x.does("region", 5, 30, 0);
        x.entryIsEmpty(1, 0);
        x.entryIsEmpty(2, 0);
        x.entryIsEmpty(3, 0);
    }

    /** Only a region of size 0 is said to be empty: an entry that names another keeps the rights that both have. */
    private static void entriesWithoutWordsAreNotEmpty() {
        Run x = family().does("region", 0, 100, 10);
        x.does("grant", 1, 0, 0, 0, 0, 6).does("grant", 1, 1, 0, 10, 5, 3);
        x.does("grant", 2, 0, 0, 0, 5, 5).does("grant", 2, 1, 1, 0, 5, 7);
        x.entryIs(1, 0, NONE, 0, 6);
        x.entryIs(1, 1, NONE, 0, 3);
        x.entryIs(2, 0, NONE, 0, 4);
        x.entryIs(2, 1, NONE, 0, 3);
    }

    private static void aChangeIsSeenByAllThatHangOnIt() {
        Run x = family().does("region", 0, 100, 100).does("grant", 1, 1, 0, 10, 50, 7);
        x.does("grant", 2, 2, 1, 10, 30, 6).does("grant", 3, 3, 2, 10, 100, 3);
        x.entryIs(3, 3, 130, 20, 2);
        x.does("grant", 1, 1, 0, 20, 25, 7);
        x.entryIs(3, 3, 140, 5, 2);
        x.does("region", 0, 0, 42);
        x.entryIs(3, 3, 40, 2, 2);
        x.does("grant", 2, 2, 1, 0, 256, 1);
        x.entryIs(3, 3, 30, 12, 1);
        x.does("grant", 2, 2, 0, 10, 30, 6);
        x.entryIsEmpty(3, 3);
    }

    /** Of entry: "IllegalArgumentException for another what." */
    private static void wrongWhats() {
        Run x = new Run().does("region", 0, 10, 20);
        x.entryIs(0, 0, 10, 20, 7);
        for (int what : new int[] {-1, 3, LEAST, MOST}) {
            x.illegalArgument("entry", 0, 0, what);
            x.illegalArgument("entry", 0, 1, what);
        }
    }

    private static Run family() {
        return new Run().does("make", 1, 0).does("make", 2, 1).does("make", 3, 2);
    }

    private static void hasEmptyLists(Run x, int process) {
        for (int entry = 0; entry < 8; entry++) {
            x.entryIsEmpty(process, entry);
        }
        for (int slot = 0; slot < 14; slot++) {
            x.slotIsEmpty(process, slot);
        }
    }
}
