/** Promises 6, 8 to 12 and 15, and the term CAPABILITY: load, read, write, refine, move, drop and slot. */
public final class CapabilityTest {
    private static final int NONE = GrantMachine.NONE;
    private static final int LEAST = Integer.MIN_VALUE;
    private static final int MOST = Integer.MAX_VALUE;

    public static void main(String[] args) {
        loading();
        wrongLoads();
        fromIsCounted();
        sizeOrAsManyAsThereAre();
        capabilitiesOfEmptyEntries();
        capabilitiesFollowTheirEntry();
        slotsOfEachKind();
        wrongWhats();
        readingAndWriting();
        theLastWordByItsSize();
        theLastWordOfTheEntry();
        theLastWordThroughAChain();
        noWordAtAll();
        rightsAsReached();
        notAMemoryOne();
        refining();
        refiningAtTheEdges();
        refiningWrongParts();
        rightsThatAreAPart();
        refiningGoesByWhatIsTold();
        refiningOfNone();
        refiningIntoTheNList();
        moving();
        movingOfNone();
        passingOn();
        passingOnGoesByItsOwnRights();
        dropping();
        Check.end();
    }

    /** "A slot gets a memory capability." */
    private static void loading() {
        Run x = machine();
        for (int slot = 0; slot < 14; slot++) {
            x.does("load", 0, slot, slot % 8, slot, slot + 1, slot % 8);
        }
        for (int slot = 0; slot < 14; slot++) {
            x.answers(1, "slot", 0, slot, 0);
            x.answers(slot % 8, "slot", 0, slot, 4);
            x.answers(slot, "slot", 0, slot, 5);
            x.answers(slot + 1, "slot", 0, slot, 6);
            x.answers(slot % 8, "slot", 0, slot, 7);
        }
        x.does("load", 0, 5, 0, 4, 3, 5);
        x.slotIs(0, 5, 1, 14, 3, 5, 0, 4, 3, 5, NONE);
        x.does("seal", 0, 0, 5).does("load", 0, 5, 0, 0, 1, 7);
        x.slotIs(0, 5, 1, 10, 1, 7, 0, 0, 1, 7, NONE);
    }

    /** "IllegalArgumentException as for grant()." */
    private static void wrongLoads() {
        Run x = machine().does("load", 0, 0, 0, 3, 4, 5);
        x.branch().does("load", 0, 0, 0, 0, 0, 0).slotIs(0, 0, 1, NONE, 0, 0, 0, 0, 0, 0, NONE);
        x.branch().does("load", 0, 0, 0, 256, 256, 7).slotIs(0, 0, 1, NONE, 0, 7, 0, 256, 256, 7, NONE);
        for (int wrong : new int[] {-1, 257, LEAST, MOST}) {
            x.illegalArgument("load", 0, 0, 0, wrong, 1, 7);
            x.illegalArgument("load", 0, 0, 0, 0, wrong, 7);
        }
        for (int wrong : new int[] {-1, 8, LEAST, MOST}) {
            x.illegalArgument("load", 0, 0, 0, 0, 1, wrong);
        }
    }

    /** "it reaches of the entry's words just so (as if an entry named that one)" */
    private static void fromIsCounted() {
        Run x = machine();
        x.branch().does("load", 0, 0, 0, 0, 3, 7).slotIs(0, 0, 1, 10, 3, 7);
        x.branch().does("load", 0, 0, 0, 1, 3, 7).slotIs(0, 0, 1, 11, 3, 7);
        x.branch().does("load", 0, 0, 0, 17, 3, 7).slotIs(0, 0, 1, 27, 3, 7);
        x.branch().does("load", 0, 0, 0, 18, 3, 7).slotIs(0, 0, 1, 28, 2, 7);
        x.branch().does("load", 0, 0, 0, 19, 3, 7).slotIs(0, 0, 1, 29, 1, 7);
        x.branch().does("load", 0, 0, 0, 20, 3, 7).slotIs(0, 0, 1, NONE, 0, 7);
        x.branch().does("load", 0, 0, 0, 21, 3, 7).slotIs(0, 0, 1, NONE, 0, 7);
    }

    private static void sizeOrAsManyAsThereAre() {
        Run x = machine();
        x.branch().does("load", 0, 0, 0, 0, 0, 7).slotIs(0, 0, 1, NONE, 0, 7);
        x.branch().does("load", 0, 0, 0, 0, 1, 7).slotIs(0, 0, 1, 10, 1, 7);
        x.branch().does("load", 0, 0, 0, 0, 19, 7).slotIs(0, 0, 1, 10, 19, 7);
        x.branch().does("load", 0, 0, 0, 0, 20, 7).slotIs(0, 0, 1, 10, 20, 7);
        x.branch().does("load", 0, 0, 0, 0, 21, 7).slotIs(0, 0, 1, 10, 20, 7, 0, 0, 21, 7);
        x.branch().does("load", 0, 0, 0, 0, 256, 7).slotIs(0, 0, 1, 10, 20, 7, 0, 0, 256, 7);
    }

    /** "An empty entry, and one that names an empty one, reaches no words, and has no rights": nor its capability. */
    private static void capabilitiesOfEmptyEntries() {
        Run x = machine().does("make", 1, 0).does("grant", 1, 0, 7, 0, 10, 7).does("steps", 1, 9);
        x.does("load", 0, 0, 7, 0, 10, 7).does("load", 1, 0, 0, 0, 10, 7).does("load", 1, 1, 1, 0, 10, 7);
        x.slotIs(0, 0, 1, NONE, 0, 0, 7, 0, 10, 7, NONE);
        x.slotIs(1, 0, 1, NONE, 0, 0, 0, 0, 10, 7, NONE);
        x.slotIs(1, 1, 1, NONE, 0, 0, 1, 0, 10, 7, NONE);
        x.illegalState("read", 0, 0, 0);
        x.illegalState("write", 1, 0, 0, 1);
        x.illegalState("read", 1, 1, 0);
    }

    private static void capabilitiesFollowTheirEntry() {
        Run x = machine().does("make", 1, 0).does("steps", 1, 10);
        x.does("grant", 1, 2, 0, 5, 5, 7).does("load", 1, 0, 2, 1, 2, 7);
        x.does("write", 1, 0, 0, 3);
        x.answers(3, "look", 16);
        x.does("grant", 1, 2, 0, 5, 5, 1);
        x.illegalState("write", 1, 0, 0, 4);
        x.does("region", 0, 100, 10);
        x.answers(0, "read", 1, 0, 0);
        x.slotIs(1, 0, 1, 106, 2, 1, 2, 1, 2, 7, NONE);
        x.does("region", 0, 100, 7);
        x.slotIs(1, 0, 1, 106, 1, 1, 2, 1, 2, 7, NONE);
        x.does("region", 0, 100, 6);
        x.slotIs(1, 0, 1, NONE, 0, 1, 2, 1, 2, 7, NONE);
        x.does("region", 0, 100, 0);
        x.slotIs(1, 0, 1, NONE, 0, 0, 2, 1, 2, 7, NONE);
    }

    /** "NONE where there is none such (1 also if it reaches none)" */
    private static void slotsOfEachKind() {
        Run x = machine();
        x.slotIsEmpty(0, 3);
        x.does("seal", 0, 3, 3).slotIsDoor(0, 3, 3);
        x.does("seal", 0, 0, 3).slotIsDoor(0, 3, 0);
        x.does("load", 0, 3, 0, 1, 2, 3).slotIs(0, 3, 1, 11, 2, 3, 0, 1, 2, 3, NONE);
        x.does("load", 0, 3, 0, 20, 2, 3).slotIs(0, 3, 1, NONE, 0, 3, 0, 20, 2, 3, NONE);
        x.does("region", 0, 0, 1).does("load", 0, 3, 0, 0, 1, 0).slotIs(0, 3, 1, 0, 1, 0, 0, 0, 1, 0, NONE);
    }

    /** Of slot: "IllegalArgumentException for another what", whatever the slot has. */
    private static void wrongWhats() {
        Run x = machine().does("load", 0, 0, 0, 0, 1, 7).does("seal", 0, 0, 1);
        for (int what : new int[] {-1, 9, LEAST, MOST}) {
            x.illegalArgument("slot", 0, 0, what);
            x.illegalArgument("slot", 0, 1, what);
            x.illegalArgument("slot", 0, 2, what);
        }
    }

    /** "The i-th word that a slot reaches", and it "becomes v". */
    private static void readingAndWriting() {
        Run x = machine().does("load", 0, 0, 0, 2, 5, 3).does("load", 0, 13, 0, 0, 20, 1);
        x.does("write", 0, 0, 0, 7).does("write", 0, 0, 4, LEAST).does("write", 0, 0, 1, MOST);
        x.answers(0, "look", 11);
        x.answers(7, "look", 12);
        x.answers(MOST, "look", 13);
        x.answers(0, "look", 15);
        x.answers(LEAST, "look", 16);
        x.answers(0, "look", 17);
        x.answers(7, "read", 0, 0, 0);
        x.answers(LEAST, "read", 0, 0, 4);
        x.answers(7, "read", 0, 13, 2);
        x.answers(0, "read", 0, 13, 19);
        x.does("write", 0, 0, 0, 8);
        x.answers(8, "read", 0, 13, 2);
    }

    /** "IllegalArgumentException if it doesn't reach so many": here as its size says. */
    private static void theLastWordByItsSize() {
        Run x = machine().does("load", 0, 0, 0, 4, 3, 3);
        takesUpTo(x, 0, 0, 3, 14);
        takesUpTo(machine().does("load", 0, 0, 0, 4, 1, 3), 0, 0, 1, 14);
    }

    /** Here there are fewer than its size says. */
    private static void theLastWordOfTheEntry() {
        takesUpTo(machine().does("load", 0, 0, 0, 18, 9, 3), 0, 0, 2, 28);
        takesUpTo(machine().does("load", 0, 0, 0, 0, 256, 3), 0, 0, 20, 10);
        takesUpTo(machine().does("region", 0, 0, 256).does("load", 0, 0, 0, 0, 256, 3), 0, 0, 256, 0);
        takesUpTo(machine().does("region", 0, 255, 1).does("load", 0, 0, 0, 0, 256, 3), 0, 0, 1, 255);
    }

    private static void theLastWordThroughAChain() {
        Run x = machine().does("make", 1, 0).does("make", 2, 1).does("steps", 2, 100);
        x.does("grant", 1, 1, 0, 10, 50, 7).does("grant", 2, 2, 1, 3, 5, 7).does("load", 2, 0, 2, 1, 9, 3);
        takesUpTo(x, 2, 0, 4, 24);
        takesUpTo(x.branch().does("region", 0, 10, 15), 2, 0, 1, 24);
    }

    /** With the right, but without words: 0 is too many already. */
    private static void noWordAtAll() {
        Run x = machine().does("load", 0, 0, 0, 0, 0, 3).does("load", 0, 1, 0, 20, 5, 3);
        refusesWords(x, 0, 0, -1, 0, 1, LEAST, MOST);
        refusesWords(x, 0, 1, -1, 0, 1, LEAST, MOST);
    }

    private static void takesUpTo(Run x, int process, int slot, int count, int first) {
        for (int i : new int[] {0, count - 1}) {
            Run y = x.branch().does("write", process, slot, i, 99);
            y.answers(99, "look", first + i);
            y.answers(99, "read", process, slot, i);
        }
        refusesWords(x, process, slot, -1, count, count + 1, 256, LEAST, MOST);
    }

    private static void refusesWords(Run x, int process, int slot, int... words) {
        for (int i : words) {
            x.illegalArgument("read", process, slot, i);
            x.illegalArgument("write", process, slot, i, 5);
        }
    }

    /** "IllegalStateException if it isn't a memory one, or without the right to read" (to write): as reached. */
    private static void rightsAsReached() {
        Run x = machine().does("make", 1, 0).does("steps", 1, 100);
        for (int granted = 0; granted <= 7; granted++) {
            for (int told = 0; told <= 7; told++) {
                Run y = x.branch().does("grant", 1, 0, 0, 0, 5, granted).does("load", 1, 0, 0, 0, 5, told);
                y.slotIs(1, 0, 1, 10, 5, granted & told, 0, 0, 5, told, NONE);
                mayReadAndWrite(y, (granted & told & 1) != 0, (granted & told & 2) != 0);
            }
        }
    }

    /** The right goes ahead of the number of words. */
    private static void mayReadAndWrite(Run x, boolean mayRead, boolean mayWrite) {
        if (mayRead) {
            x.branch().does("read", 1, 0, 4);
            x.illegalArgument("read", 1, 0, 5);
        } else {
            x.illegalState("read", 1, 0, 4);
            x.illegalState("read", 1, 0, 5);
        }
        if (mayWrite) {
            x.branch().does("write", 1, 0, 4, 1);
            x.illegalArgument("write", 1, 0, 5, 1);
        } else {
            x.illegalState("write", 1, 0, 4, 1);
            x.illegalState("write", 1, 0, 5, 1);
        }
    }

    private static void notAMemoryOne() {
        Run x = machine().does("seal", 0, 0, 4);
        for (int slot : new int[] {4, 5}) {
            for (int i : new int[] {-1, 0, 1}) {
                x.illegalState("read", 0, slot, i);
                x.illegalState("write", 0, slot, i, 5);
            }
        }
    }

    /** "of the same entry as slot of: its from is that one's and from; its size and rights as told" */
    private static void refining() {
        Run x = machine().does("load", 0, 0, 0, 5, 10, 7).does("refine", 0, 0, 13, 2, 6, 5);
        x.slotIs(0, 13, 1, 17, 6, 5, 0, 7, 6, 5, NONE);
        x.slotIs(0, 0, 1, 15, 10, 7, 0, 5, 10, 7, NONE);
        x.does("refine", 0, 13, 13, 3, 2, 4);
        x.slotIs(0, 13, 1, 20, 2, 4, 0, 10, 2, 4, NONE);
        x.does("load", 0, 1, 7, 5, 10, 7).does("refine", 0, 1, 0, 1, 1, 1);
        x.slotIs(0, 0, 1, NONE, 0, 0, 7, 6, 1, 1, NONE);
    }

    private static void refiningAtTheEdges() {
        Run x = machine().does("load", 0, 0, 0, 5, 10, 7);
        for (int from = 0; from <= 9; from++) {
            x.branch().does("refine", 0, 0, 1, from, 10 - from, 7)
                    .slotIs(0, 1, 1, 15 + from, 10 - from, 7, 0, 5 + from, 10 - from, 7, NONE);
        }
        x.branch().does("refine", 0, 0, 1, 10, 0, 7).slotIs(0, 1, 1, NONE, 0, 7, 0, 15, 0, 7, NONE);
        x.branch().does("refine", 0, 0, 1, 0, 0, 7).slotIs(0, 1, 1, NONE, 0, 7, 0, 5, 0, 7, NONE);
        Run none = machine().does("load", 0, 0, 0, 5, 0, 7);
        none.branch().does("refine", 0, 0, 1, 0, 0, 7).slotIs(0, 1, 1, NONE, 0, 7, 0, 5, 0, 7, NONE);
        none.illegalArgument("refine", 0, 0, 1, 1, 0, 7);
        none.illegalArgument("refine", 0, 0, 1, 0, 1, 7);
    }

    /** "if from or size is below 0, from and size together are above that one's size" */
    private static void refiningWrongParts() {
        Run x = machine().does("load", 0, 0, 0, 5, 10, 7);
        for (int from = 0; from <= 11; from++) {
            x.illegalArgument("refine", 0, 0, 1, from, 11 - from, 7);
        }
        for (int below : new int[] {-1, -5, LEAST}) {
            x.illegalArgument("refine", 0, 0, 1, below, 5, 7);
            x.illegalArgument("refine", 0, 0, 1, 5, below, 7);
            x.illegalArgument("refine", 0, 0, 1, below, below, 7);
            x.illegalArgument("refine", 0, 0, 1, below, MOST, 7);
            x.illegalArgument("refine", 0, 0, 1, MOST, below, 7);
        }
        // Together these wrap around to a number that is not above 10.
        x.illegalArgument("refine", 0, 0, 1, MOST, 1, 7);
        x.illegalArgument("refine", 0, 0, 1, 1, MOST, 7);
        x.illegalArgument("refine", 0, 0, 1, MOST, MOST, 7);
    }

    /** "or rights are not a part of its rights" */
    private static void rightsThatAreAPart() {
        for (int rights = 0; rights <= 7; rights++) {
            Run x = machine().does("load", 0, 0, 0, 5, 10, rights);
            for (int part = 0; part <= 7; part++) {
                if ((rights & part) == part) {
                    x.branch().does("refine", 0, 0, 1, 0, 1, part).answers(part, "slot", 0, 1, 7);
                } else {
                    x.illegalArgument("refine", 0, 0, 1, 0, 1, part);
                }
            }
            for (int wrong : new int[] {-1, 8, 8 | rights, LEAST, LEAST | rights, MOST}) {
                x.illegalArgument("refine", 0, 0, 1, 0, 1, wrong);
            }
        }
    }

    /** What counts is what a capability has been told, not what it reaches now. */
    private static void refiningGoesByWhatIsTold() {
        Run x = machine().does("load", 0, 0, 5, 256, 256, 7);
        x.branch().does("refine", 0, 0, 1, 256, 0, 7).slotIs(0, 1, 1, NONE, 0, 0, 5, 512, 0, 7, NONE);
        x.branch().does("refine", 0, 0, 1, 100, 156, 3).slotIs(0, 1, 1, NONE, 0, 0, 5, 356, 156, 3, NONE);
        x.illegalArgument("refine", 0, 0, 1, 100, 157, 3);
        Run y = machine().does("load", 0, 0, 0, 0, 5, 7).does("refine", 0, 0, 1, 1, 4, 7);
        y.illegalArgument("refine", 0, 1, 2, 0, 5, 7);
        y.does("make", 1, 0).does("grant", 1, 0, 0, 0, 2, 1).does("load", 1, 0, 0, 0, 5, 3).does("steps", 1, 9);
        y.does("refine", 1, 0, 1, 0, 5, 2).slotIs(1, 1, 1, 10, 2, 0, 0, 0, 5, 2, NONE);
    }

    /** "IllegalStateException if slot of has none", and ahead of wrong arguments. */
    private static void refiningOfNone() {
        Run x = machine().does("seal", 0, 0, 2).does("load", 0, 1, 0, 0, 5, 7);
        for (int slot : new int[] {2, 3}) {
            x.illegalState("refine", 0, slot, 1, 0, 0, 0);
            x.illegalState("refine", 0, slot, 1, -1, 0, 0);
            x.illegalState("refine", 0, slot, 1, 0, -1, 0);
            x.illegalState("refine", 0, slot, 1, 0, 0, 8);
        }
    }

    /** Only of move it is said that the right to pass on is needed. */
    private static void refiningIntoTheNList() {
        Run x = machine().does("load", 0, 0, 0, 0, 4, 3);
        for (int slot = 10; slot < 14; slot++) {
            x.does("refine", 0, 0, slot, 0, 4, 3).slotIs(0, slot, 1, 10, 4, 3, 0, 0, 4, 3, NONE);
        }
    }

    /** "Slot to gets what slot of has." */
    private static void moving() {
        Run x = machine().does("load", 0, 0, 0, 5, 10, 3).does("move", 0, 0, 9);
        x.slotIs(0, 9, 1, 15, 10, 3, 0, 5, 10, 3, NONE);
        x.slotIs(0, 0, 1, 15, 10, 3, 0, 5, 10, 3, NONE);
        x.does("move", 0, 0, 0).slotIs(0, 0, 1, 15, 10, 3, 0, 5, 10, 3, NONE);
        x.does("load", 0, 0, 0, 0, 1, 1).slotIs(0, 9, 1, 15, 10, 3, 0, 5, 10, 3, NONE);
        x.does("seal", 0, 1, 0).does("move", 0, 0, 9).slotIsDoor(0, 9, 1);
        x.does("load", 0, 13, 0, 0, 6, 4).does("move", 0, 13, 0).slotIs(0, 0, 1, 10, 6, 4, 0, 0, 6, 4, NONE);
    }

    /** "IllegalStateException if that is empty" */
    private static void movingOfNone() {
        Run x = machine().does("load", 0, 0, 0, 5, 10, 7);
        x.illegalState("move", 0, 4, 0);
        x.illegalState("move", 0, 4, 4);
        x.illegalState("move", 0, 4, 10);
        x.illegalState("move", 0, 13, 0);
    }

    /** "or a memory one that lacks the right to be passed on ..., and to is 10 .. 13" */
    private static void passingOn() {
        for (int rights = 0; rights <= 7; rights++) {
            Run x = machine().does("seal", 0, 0, 2);
            x.does("load", 0, 1, 0, 0, 5, rights).does("load", 0, 12, 0, 0, 5, rights);
            for (int to = 0; to < 14; to++) {
                for (int of : new int[] {1, 12}) {
                    if (to < 10 || rights >= 4) {
                        x.branch().does("move", 0, of, to).slotIs(0, to, 1, 10, 5, rights, 0, 0, 5, rights, NONE);
                    } else {
                        x.illegalState("move", 0, of, to);
                    }
                }
                x.branch().does("move", 0, 2, to).slotIsDoor(0, to, 0);
            }
        }
    }

    /** "(among its own rights)": what its entry lets it have does not count. */
    private static void passingOnGoesByItsOwnRights() {
        Run x = machine().does("make", 1, 0).does("steps", 1, 9).does("grant", 1, 0, 0, 0, 5, 3);
        x.does("load", 1, 0, 0, 0, 5, 4).does("load", 1, 1, 7, 0, 5, 7).does("load", 1, 2, 0, 0, 5, 3);
        x.branch().does("move", 1, 0, 10).slotIs(1, 10, 1, 10, 5, 0, 0, 0, 5, 4, NONE);
        x.branch().does("move", 1, 1, 13).slotIs(1, 13, 1, NONE, 0, 0, 7, 0, 5, 7, NONE);
        x.does("grant", 1, 0, 0, 0, 5, 7);
        x.illegalState("move", 1, 2, 10);
    }

    /** "A slot is empty then." */
    private static void dropping() {
        Run x = machine().does("seal", 0, 0, 13);
        for (int slot = 0; slot < 13; slot++) {
            x.does("load", 0, slot, 0, 5, 10, 3);
        }
        for (int slot = 0; slot < 14; slot++) {
            Run y = x.branch().does("drop", 0, slot);
            for (int other = 0; other < 14; other++) {
                y.answers(other == slot ? 0 : other == 13 ? 2 : 1, "slot", 0, other, 0);
            }
            y.slotIsEmpty(0, slot);
            y.does("drop", 0, slot).slotIsEmpty(0, slot);
        }
    }

    /** Process 0 with words 10 .. 29 in its entry 0, and steps. */
    private static Run machine() {
        return new Run().does("region", 0, 10, 20).does("steps", 0, 100);
    }
}
