import java.util.NoSuchElementException;

/**
 * A machine in which nothing is reached but by capabilities: processes with resource lists that hang on their
 * parents', capabilities that can only be made less, procedures that are entered with lists of their own, and
 * steps that a parent gives.
 */
public final class GrantMachine {
    public static final int NONE = -1;

    private static final int WORDS = 256;
    private static final int PROCESSES = 4;
    private static final int ENTRIES = 8;
    private static final int PROCEDURES = 4;
    private static final int MOST_PUT_BY = 4;

    // Slots 0 .. 5 are the P list, 6 .. 9 the A list, 10 .. 13 the N list.
    private static final int SLOTS = 14;
    private static final int P_SIZE = 6;
    private static final int A_START = 6;
    private static final int A_SIZE = 4;
    private static final int N_START = 10;
    private static final int PUT_BY_SIZE = P_SIZE + A_SIZE;

    private static final int READ = 1;
    private static final int WRITE = 2;
    private static final int PASS_ON = 4;
    private static final int ALL_RIGHTS = READ | WRITE | PASS_ON;

    private static final int EMPTY_KIND = 0;
    private static final int MEMORY_KIND = 1;
    private static final int DOOR_KIND = 2;
    private static final int LAST_OF_SLOT = 8;

    private static final int MOST_STEPS_AT_ONCE = 1000;
    private static final int MOST_STEPS = 1000000;

    private final int[] store = new int[WORDS];
    private final ProcessState[] processes = new ProcessState[PROCESSES];

    public GrantMachine() {
        for (int process = 0; process < PROCESSES; process++) {
            processes[process] = new ProcessState();
        }
        processes[0].made = true;
    }

    public void region(int entry, int first, int size) throws IndexOutOfBoundsException, IllegalArgumentException {
        checkEntry(entry);
        if (first < 0 || size < 0 || first > WORDS - size) {
            throw new IllegalArgumentException("the region is not within the store");
        }
        processes[0].entries[entry] = size == 0 ? null : new Window(NONE, first, size, ALL_RIGHTS);
    }

    public void make(int process, int parent) throws NoSuchElementException, IllegalArgumentException {
        if (process <= 0 || process >= PROCESSES) {
            throw new NoSuchElementException("there is no such process to be made");
        }
        checkMade(parent);
        if (parent >= process) {
            throw new IllegalArgumentException("the parent's number is not less");
        }
        processes[process].clear();
        clearOrphans(process);
        processes[process].made = true;
        processes[process].parent = parent;
    }

    public void grant(int process, int entry, int of, int from, int size, int rights)
            throws NoSuchElementException, IndexOutOfBoundsException, IllegalArgumentException {
        checkMade(process);
        if (process == 0) {
            throw new NoSuchElementException("process 0 has no parent whose entries it could name");
        }
        checkEntry(entry);
        checkEntry(of);
        checkWindow(from, size, rights);
        processes[process].entries[entry] = new Window(of, from, size, rights);
    }

    public void steps(int process, int steps) throws NoSuchElementException, IllegalArgumentException {
        checkMade(process);
        if (steps < 0 || steps > MOST_STEPS_AT_ONCE) {
            throw new IllegalArgumentException("so many steps are not given at once");
        }
        ProcessState taker = processes[process];
        if (taker.stepsLeft > MOST_STEPS - steps) {
            throw new IllegalArgumentException("the process would have too many steps");
        }
        taker.stepsLeft += steps;
    }

    public void load(int process, int slot, int entry, int from, int size, int rights)
            throws NoSuchElementException, IndexOutOfBoundsException, IllegalArgumentException {
        checkMade(process);
        checkSlot(slot);
        checkEntry(entry);
        checkWindow(from, size, rights);
        processes[process].slots[slot] = new Window(entry, from, size, rights);
    }

    public void seal(int process, int procedure, int slot) throws NoSuchElementException, IndexOutOfBoundsException {
        checkMade(process);
        if (procedure < 0 || procedure >= PROCEDURES) {
            throw new IndexOutOfBoundsException("there is no such procedure");
        }
        checkSlot(slot);
        ProcessState owner = processes[process];
        // The list is taken before the slot gets its door, so a procedure does not get its own door by being sealed.
        copy(owner.slots, 0, owner.procedures, procedure * P_SIZE, P_SIZE);
        owner.slots[slot] = new Door(procedure);
    }

    public int read(int process, int slot, int i)
            throws NoSuchElementException, IndexOutOfBoundsException, UnsupportedOperationException,
            IllegalStateException, IllegalArgumentException {
        checkMade(process);
        checkSlot(slot);
        checkStepsLeft(process);
        int word = wordReached(process, slot, i, READ);
        processes[process].stepsLeft--;
        return store[word];
    }

    public void write(int process, int slot, int i, int v)
            throws NoSuchElementException, IndexOutOfBoundsException, UnsupportedOperationException,
            IllegalStateException, IllegalArgumentException {
        checkMade(process);
        checkSlot(slot);
        checkStepsLeft(process);
        int word = wordReached(process, slot, i, WRITE);
        processes[process].stepsLeft--;
        store[word] = v;
    }

    public void refine(int process, int of, int to, int from, int size, int rights)
            throws NoSuchElementException, IndexOutOfBoundsException, UnsupportedOperationException,
            IllegalStateException, IllegalArgumentException {
        checkMade(process);
        checkSlot(of);
        checkSlot(to);
        checkStepsLeft(process);
        Window whole = memoryIn(process, of);
        if (from < 0 || size < 0 || from > whole.size - size) {
            throw new IllegalArgumentException("the part is not within the capability's size");
        }
        if ((rights & ~whole.rights) != 0) {
            throw new IllegalArgumentException("the rights are not a part of the capability's rights");
        }
        ProcessState doer = processes[process];
        doer.slots[to] = new Window(whole.named, whole.from + from, size, rights);
        doer.stepsLeft--;
    }

    public void move(int process, int of, int to)
            throws NoSuchElementException, IndexOutOfBoundsException, UnsupportedOperationException,
            IllegalStateException {
        checkMade(process);
        checkSlot(of);
        checkSlot(to);
        checkStepsLeft(process);
        ProcessState doer = processes[process];
        Capability moved = doer.slots[of];
        if (moved == null) {
            throw new IllegalStateException("the slot is empty");
        }
        if (to >= N_START && moved instanceof Window memory && (memory.rights & PASS_ON) == 0) {
            throw new IllegalStateException("the capability may not be passed on");
        }
        doer.slots[to] = moved;
        doer.stepsLeft--;
    }

    public void drop(int process, int slot)
            throws NoSuchElementException, IndexOutOfBoundsException, UnsupportedOperationException {
        checkMade(process);
        checkSlot(slot);
        checkStepsLeft(process);
        processes[process].slots[slot] = null;
        processes[process].stepsLeft--;
    }

    public int enter(int process, int slot)
            throws NoSuchElementException, IndexOutOfBoundsException, UnsupportedOperationException,
            IllegalStateException {
        checkMade(process);
        checkSlot(slot);
        checkStepsLeft(process);
        Door door = doorIn(process, slot);
        ProcessState doer = processes[process];
        if (doer.timesPutBy >= MOST_PUT_BY) {
            throw new IllegalStateException("no more lists can be put by");
        }
        doer.putListsBy(door.procedure);
        doer.stepsLeft--;
        return doer.timesPutBy;
    }

    public int back(int process)
            throws NoSuchElementException, UnsupportedOperationException, IllegalStateException {
        checkMade(process);
        checkStepsLeft(process);
        ProcessState doer = processes[process];
        if (doer.timesPutBy == 0) {
            throw new IllegalStateException("no lists are put by");
        }
        doer.takeListsBack();
        doer.stepsLeft--;
        return doer.timesPutBy;
    }

    public int slot(int process, int slot, int what)
            throws NoSuchElementException, IndexOutOfBoundsException, IllegalArgumentException {
        checkMade(process);
        checkSlot(slot);
        checkWhat(what, LAST_OF_SLOT);
        Capability held = processes[process].slots[slot];
        if (held instanceof Window memory) {
            return tellOfMemory(process, memory, what);
        }
        if (held instanceof Door door) {
            return tellOfDoor(door, what);
        }
        return what == 0 ? EMPTY_KIND : NONE;
    }

    public int entry(int process, int entry, int what)
            throws NoSuchElementException, IndexOutOfBoundsException, IllegalArgumentException {
        checkMade(process);
        checkEntry(entry);
        checkWhat(what, 2);
        Reach reach = reachOfEntry(process, entry);
        switch (what) {
            case 0:
                return reach.firstOrNone();
            case 1:
                return reach.count;
            default:
                return reach.rights;
        }
    }

    public int about(int process, int what) throws NoSuchElementException, IllegalArgumentException {
        checkMade(process);
        checkWhat(what, 2);
        ProcessState asked = processes[process];
        switch (what) {
            case 0:
                return asked.stepsLeft;
            case 1:
                return asked.parent;
            default:
                return asked.timesPutBy;
        }
    }

    public boolean reaches(int process, int word) throws NoSuchElementException, IndexOutOfBoundsException {
        checkMade(process);
        checkWord(word);
        // A capability, wherever it is kept, reaches only words of its entry in this list: so the entries tell all.
        for (int entry = 0; entry < ENTRIES; entry++) {
            if (reachOfEntry(process, entry).has(word)) {
                return true;
            }
        }
        return false;
    }

    public int look(int word) throws IndexOutOfBoundsException {
        checkWord(word);
        return store[word];
    }

    private void checkMade(int process) {
        if (process < 0 || process >= PROCESSES || !processes[process].made) {
            throw new NoSuchElementException("there is no such process");
        }
    }

    private static void checkEntry(int entry) {
        if (entry < 0 || entry >= ENTRIES) {
            throw new IndexOutOfBoundsException("there is no such entry");
        }
    }

    private static void checkSlot(int slot) {
        if (slot < 0 || slot >= SLOTS) {
            throw new IndexOutOfBoundsException("there is no such slot");
        }
    }

    private static void checkWord(int word) {
        if (word < 0 || word >= WORDS) {
            throw new IndexOutOfBoundsException("there is no such word");
        }
    }

    private void checkStepsLeft(int process) {
        if (processes[process].stepsLeft == 0) {
            throw new UnsupportedOperationException("the process has no steps left");
        }
    }

    private static void checkWindow(int from, int size, int rights) {
        if (from < 0 || from > WORDS || size < 0 || size > WORDS) {
            throw new IllegalArgumentException("from or size is not 0 .. 256");
        }
        if (rights < 0 || rights > ALL_RIGHTS) {
            throw new IllegalArgumentException("rights are not 0 .. 7");
        }
    }

    private static void checkWhat(int what, int last) {
        if (what < 0 || what > last) {
            throw new IllegalArgumentException("there is no such thing to ask for");
        }
    }

    /** A child's number is greater than its parent's, so one pass upwards meets all that hang on the process. */
    private void clearOrphans(int process) {
        for (int other = process + 1; other < PROCESSES; other++) {
            ProcessState child = processes[other];
            if (child.made && !processes[child.parent].made) {
                child.clear();
            }
        }
    }

    private Window memoryIn(int process, int slot) {
        if (processes[process].slots[slot] instanceof Window memory) {
            return memory;
        }
        throw new IllegalStateException("the slot has no memory capability");
    }

    private Door doorIn(int process, int slot) {
        if (processes[process].slots[slot] instanceof Door door) {
            return door;
        }
        throw new IllegalStateException("the slot has no door");
    }

    private int wordReached(int process, int slot, int i, int right) {
        Reach reach = reachOfMemory(process, memoryIn(process, slot));
        if ((reach.rights & right) == 0) {
            throw new IllegalStateException("the capability lacks the right");
        }
        if (i < 0 || i >= reach.count) {
            throw new IllegalArgumentException("the capability does not reach so many words");
        }
        return reach.first + i;
    }

    private Reach reachOfMemory(int process, Window memory) {
        Reach reach = reachOfEntry(process, memory.named);
        reach.narrow(memory);
        return reach;
    }

    /** A parent's number is always less, so this ends at process 0 after calling itself three times at most. */
    private Reach reachOfEntry(int process, int entry) {
        ProcessState owner = processes[process];
        Window window = owner.entries[entry];
        if (window == null) {
            return new Reach(0, 0);
        }
        // A region is a window on the store itself, as an entry of another process is one on its parent's entry.
        Reach reach = process == 0 ? new Reach(WORDS, ALL_RIGHTS) : reachOfEntry(owner.parent, window.named);
        reach.narrow(window);
        return reach;
    }

    private int tellOfMemory(int process, Window memory, int what) {
        Reach reach = reachOfMemory(process, memory);
        switch (what) {
            case 0:
                return MEMORY_KIND;
            case 1:
                return reach.firstOrNone();
            case 2:
                return reach.count;
            case 3:
                return reach.rights;
            case 4:
                return memory.named;
            case 5:
                return memory.from;
            case 6:
                return memory.size;
            case 7:
                return memory.rights;
            default:
                return NONE;
        }
    }

    private static int tellOfDoor(Door door, int what) {
        switch (what) {
            case 0:
                return DOOR_KIND;
            case 8:
                return door.procedure;
            default:
                return NONE;
        }
    }

    private static void copy(Capability[] source, int start, Capability[] target, int targetStart, int count) {
        for (int i = 0; i < count; i++) {
            target[targetStart + i] = source[start + i];
        }
    }

    private static void empty(Capability[] list, int start, int count) {
        for (int i = 0; i < count; i++) {
            list[start + i] = null;
        }
    }

    /** What a slot can have; an empty slot has null. None is ever changed, so lists may share them. */
    private interface Capability {
    }

    /** A memory capability, or what stands in an entry: a part of what another entry reaches. */
    private static final class Window implements Capability {
        final int named;
        final int from;
        final int size;
        final int rights;

        Window(int named, int from, int size, int rights) {
            this.named = named;
            this.from = from;
            this.size = size;
            this.rights = rights;
        }
    }

    private static final class Door implements Capability {
        final int procedure;

        Door(int procedure) {
            this.procedure = procedure;
        }
    }

    /** A row of words with rights, made less by one window after the other. */
    private static final class Reach {
        int first = 0;
        int count;
        int rights;

        Reach(int count, int rights) {
            this.count = count;
            this.rights = rights;
        }

        void narrow(Window window) {
            int skipped = Math.min(window.from, count);
            first += skipped;
            count = Math.min(window.size, count - skipped);
            rights &= window.rights;
        }

        int firstOrNone() {
            return count == 0 ? NONE : first;
        }

        boolean has(int word) {
            return word >= first && word - first < count;
        }
    }

    private static final class ProcessState {
        final Window[] entries = new Window[ENTRIES];
        final Capability[] slots = new Capability[SLOTS];
        final Capability[] procedures = new Capability[PROCEDURES * P_SIZE];
        final Capability[] putBy = new Capability[MOST_PUT_BY * PUT_BY_SIZE];
        boolean made = false;
        int parent = NONE;
        int stepsLeft = 0;
        int timesPutBy = 0;

        void clear() {
            for (int entry = 0; entry < ENTRIES; entry++) {
                entries[entry] = null;
            }
            empty(slots, 0, SLOTS);
            empty(procedures, 0, PROCEDURES * P_SIZE);
            empty(putBy, 0, MOST_PUT_BY * PUT_BY_SIZE);
            made = false;
            parent = NONE;
            stepsLeft = 0;
            timesPutBy = 0;
        }

        void putListsBy(int procedure) {
            // P and A lie side by side at the start of the slots, so they are put by as one row.
            copy(slots, 0, putBy, timesPutBy * PUT_BY_SIZE, PUT_BY_SIZE);
            copy(procedures, procedure * P_SIZE, slots, 0, P_SIZE);
            copy(slots, N_START, slots, A_START, A_SIZE);
            empty(slots, N_START, A_SIZE);
            timesPutBy++;
        }

        void takeListsBack() {
            timesPutBy--;
            copy(slots, A_START, slots, N_START, A_SIZE);
            copy(putBy, timesPutBy * PUT_BY_SIZE, slots, 0, PUT_BY_SIZE);
            empty(putBy, timesPutBy * PUT_BY_SIZE, PUT_BY_SIZE);
        }
    }
}
