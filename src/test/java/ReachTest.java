import java.util.NoSuchElementException;

/** Promises 18 and 19: reaches and look. */
public final class ReachTest {
    public static void main(String[] args) {
        entriesReach();
        rightsDoNotMatter();
        capabilitiesReachNoMoreThanTheirEntries();
        wordsAndWrongWords();
        Check.end();
    }

    private static void entriesReach() {
        GrantMachine x = new GrantMachine();
        x.region(0, 10, 5);
        x.region(7, 255, 1);
        reachesJust(x, 0, 10, 14, 255, 255);
        x.make(1, 0);
        reachesJust(x, 1, 1, 0, 1, 0);
        x.grant(1, 3, 0, 3, 100, 7);
        reachesJust(x, 1, 13, 14, 13, 14);
        x.grant(1, 4, 7, 0, 1, 1);
        reachesJust(x, 1, 13, 14, 255, 255);
        x.region(0, 0, 4);
        reachesJust(x, 1, 3, 3, 255, 255);
        x.region(0, 0, 0);
        reachesJust(x, 1, 255, 255, 255, 255);
        x.make(1, 0);
        reachesJust(x, 1, 1, 0, 1, 0);
    }

    private static void rightsDoNotMatter() {
        GrantMachine x = new GrantMachine();
        x.region(0, 0, 256);
        x.make(1, 0);
        x.grant(1, 0, 0, 20, 10, 0);
        reachesJust(x, 1, 20, 29, 20, 29);
    }

    /** Wherever a capability is kept, it follows its entry; and the entry reaches what the capability does not. */
    private static void capabilitiesReachNoMoreThanTheirEntries() {
        GrantMachine x = new GrantMachine();
        x.region(0, 100, 10);
        x.steps(0, 10);
        x.load(0, 0, 0, 2, 3, 7);
        x.seal(0, 0, 6);
        x.enter(0, 6);
        x.drop(0, 0);
        reachesJust(x, 0, 100, 109, 100, 109);
        x.region(0, 0, 0);
        reachesJust(x, 0, 1, 0, 1, 0);
        x.region(0, 50, 1);
        reachesJust(x, 0, 50, 50, 50, 50);
    }

    private static void wordsAndWrongWords() {
        GrantMachine x = new GrantMachine();
        x.region(0, 0, 256);
        x.steps(0, 2);
        x.load(0, 0, 0, 0, 256, 2);
        x.write(0, 0, 0, -5);
        x.write(0, 0, 255, 6);
        Check.same("look(0)", x.look(0), -5);
        Check.same("look(255)", x.look(255), 6);
        Check.same("look(1)", x.look(1), 0);
        for (int word : new int[] {-1, 256, Integer.MAX_VALUE, Integer.MIN_VALUE}) {
            Check.refuses(x, "look(" + word + ")", IndexOutOfBoundsException.class, () -> x.look(word));
            Check.refuses(x, "reaches(0, " + word + ")", IndexOutOfBoundsException.class, () -> x.reaches(0, word));
            Check.refuses(x, "reaches(1, " + word + ")", NoSuchElementException.class, () -> x.reaches(1, word));
        }
        Check.refuses(x, "reaches(4, 0)", NoSuchElementException.class, () -> x.reaches(4, 0));
        Check.refuses(x, "reaches(-1, 0)", NoSuchElementException.class, () -> x.reaches(-1, 0));
    }

    private static void reachesJust(GrantMachine x, int process, int first, int last, int otherFirst, int otherLast) {
        for (int word = 0; word < 256; word++) {
            boolean due = word >= first && word <= last || word >= otherFirst && word <= otherLast;
            Check.yes("reaches(" + process + ", " + word + ") is " + due, x.reaches(process, word) == due);
        }
    }
}
