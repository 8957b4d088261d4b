import java.util.stream.IntStream;

/** Promises 18 and 19, and the term STORE: reaches and look. */
public final class ReachTest {
    private static final int LEAST = Integer.MIN_VALUE;
    private static final int MOST = Integer.MAX_VALUE;

    public static void main(String[] args) {
        wordsAreZeroAtFirst();
        look();
        wrongWords();
        nothingIsReachedAtFirst();
        entriesReach();
        entriesOfAChildReach();
        rightsDoNotMatter();
        slotsReach();
        proceduresAndListsPutByReach();
        capabilitiesReachNoMoreThanTheirEntries();
        aProcessReachesByItsOwnListsAlone();
        Check.end();
    }

    /** "The STORE has 256 WORDS (ints), 0 at first." */
    private static void wordsAreZeroAtFirst() {
        Run x = new Run();
        for (int word = 0; word < 256; word++) {
            x.answers(0, "look", word);
        }
    }

    /** "A word." */
    private static void look() {
        Run x = new Run().does("region", 0, 0, 256).does("steps", 0, 5).does("load", 0, 0, 0, 0, 256, 2);
        x.does("write", 0, 0, 0, LEAST).does("write", 0, 0, 255, MOST).does("write", 0, 0, 100, -5);
        x.answers(LEAST, "look", 0);
        x.answers(0, "look", 1);
        x.answers(0, "look", 99);
        x.answers(-5, "look", 100);
        x.answers(0, "look", 254);
        x.answers(MOST, "look", 255);
        x.does("region", 0, 0, 0);
        x.answers(-5, "look", 100);
    }

    /** "IndexOutOfBoundsException if there is none such", and "if there is no such word". */
    private static void wrongWords() {
        Run x = new Run().does("region", 0, 0, 256);
        for (int word : new int[] {-1, 256, LEAST, MOST}) {
            x.outOfBounds("look", word);
            x.outOfBounds("reaches", 0, word);
            x.noSuchElement("reaches", 1, word);
        }
        x.answers(true, "reaches", 0, 0);
        x.answers(true, "reaches", 0, 255);
    }

    private static void nothingIsReachedAtFirst() {
        Run x = new Run().does("make", 1, 0);
        reachesJust(x, 0);
        reachesJust(x, 1);
    }

    /** "Whether any slot or entry of a process ... reaches a word": here each entry, with its first and last word. */
    private static void entriesReach() {
        for (int entry = 0; entry < 8; entry++) {
            reachesJust(new Run().does("region", entry, 10, 3), 0, 10, 11, 12);
        }
        Run x = new Run().does("region", 0, 0, 1).does("region", 3, 40, 2).does("region", 7, 255, 1);
        reachesJust(x, 0, 0, 40, 41, 255);
        x.does("region", 3, 40, 0);
        reachesJust(x, 0, 0, 255);
    }

    private static void entriesOfAChildReach() {
        Run x = new Run().does("region", 0, 10, 5).does("region", 7, 255, 1).does("make", 1, 0);
        x.does("grant", 1, 3, 0, 3, 100, 7);
        reachesJust(x, 1, 13, 14);
        x.does("grant", 1, 4, 7, 0, 1, 1);
        reachesJust(x, 1, 13, 14, 255);
        x.does("region", 0, 0, 4);
        reachesJust(x, 1, 3, 255);
        x.does("region", 0, 0, 3);
        reachesJust(x, 1, 255);
        x.does("make", 1, 0);
        reachesJust(x, 1);
    }

    private static void rightsDoNotMatter() {
        Run x = new Run().does("region", 0, 0, 256).does("make", 1, 0).does("grant", 1, 0, 0, 20, 2, 0);
        reachesJust(x, 1, 20, 21);
    }

    /** What a slot reaches is a part of what its entry reaches, so that both reach it together. */
    private static void slotsReach() {
        Run x = new Run().does("region", 2, 100, 5).does("load", 0, 13, 2, 1, 2, 7);
        reachesJust(x, 0, 100, 101, 102, 103, 104);
        x.does("region", 2, 200, 2);
        reachesJust(x, 0, 200, 201);
        x.does("region", 2, 200, 0);
        reachesJust(x, 0);
    }

    /** "(also of its procedures' lists, and of those put by)": these follow their entry as a slot does. */
    private static void proceduresAndListsPutByReach() {
        Run x = new Run().does("region", 1, 100, 2).does("steps", 0, 9).does("load", 0, 0, 1, 0, 2, 7);
        x.does("load", 0, 7, 1, 1, 1, 7).does("seal", 0, 0, 13).does("enter", 0, 13).does("drop", 0, 0);
        reachesJust(x, 0, 100, 101);
        x.does("region", 1, 50, 1);
        reachesJust(x, 0, 50);
        x.does("region", 1, 50, 0);
        reachesJust(x, 0);
    }

    private static void capabilitiesReachNoMoreThanTheirEntries() {
        Run x = new Run().does("region", 0, 100, 3).does("load", 0, 0, 0, 0, 256, 7).does("load", 0, 1, 5, 0, 256, 7);
        x.does("seal", 0, 0, 2);
        reachesJust(x, 0, 100, 101, 102);
    }

    private static void aProcessReachesByItsOwnListsAlone() {
        Run x = new Run().does("region", 0, 10, 4).does("make", 1, 0).does("make", 2, 0);
        x.does("load", 1, 0, 0, 0, 4, 7).does("grant", 2, 0, 0, 1, 1, 7);
        reachesJust(x, 0, 10, 11, 12, 13);
        reachesJust(x, 1);
        reachesJust(x, 2, 11);
    }

    private static void reachesJust(Run x, int process, int... words) {
        for (int word = 0; word < 256; word++) {
            int asked = word;
            x.answers(IntStream.of(words).anyMatch(due -> due == asked), "reaches", process, word);
        }
    }
}
