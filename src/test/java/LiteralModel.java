import java.util.ArrayDeque;
import java.util.ArrayList;
import java.util.Arrays;
import java.util.Deque;
import java.util.HashMap;
import java.util.List;
import java.util.Map;
import java.util.NoSuchElementException;

/**
 * The document again, as word for word as can be and without a thought of cost: rows of words are lists of words,
 * and what is reached is looked for in every place that the document names. ModelTest holds the program against it.
 */
final class LiteralModel {
    record Entry(int of, int from, int size, int rights) {
    }

    record Cap(boolean door, int procedure, int entry, int from, int size, int rights) {
    }

    record Row(List<Integer> words, int rights) {
        Row part(int from, int size, int otherRights) {
            List<Integer> kept = new ArrayList<>();
            for (int n = from; n < words.size() && kept.size() < size; n++) {
                kept.add(words.get(n));
            }
            return new Row(kept, rights & otherRights);
        }
    }

    static final class Process {
        final int parent;
        int steps = 0;
        final Map<Integer, Entry> entries = new HashMap<>();
        List<Cap> p = blank(6);
        List<Cap> a = blank(4);
        List<Cap> n = blank(4);
        final Map<Integer, List<Cap>> procedures = new HashMap<>();
        final Deque<List<List<Cap>>> putBy = new ArrayDeque<>();

        Process(int parent) {
            this.parent = parent;
        }

        Cap get(int slot) {
            return slot < 6 ? p.get(slot) : slot < 10 ? a.get(slot - 6) : n.get(slot - 10);
        }

        void set(int slot, Cap cap) {
            if (slot < 6) {
                p.set(slot, cap);
            } else if (slot < 10) {
                a.set(slot - 6, cap);
            } else {
                n.set(slot - 10, cap);
            }
        }
    }

    private final int[] store = new int[256];
    private final Map<Integer, Process> processes = new HashMap<>();

    LiteralModel() {
        processes.put(0, new Process(-1));
    }

    private static List<Cap> blank(int size) {
        return new ArrayList<>(Arrays.asList(new Cap[size]));
    }

    private Process process(int number) {
        if (!processes.containsKey(number)) {
            throw new NoSuchElementException();
        }
        return processes.get(number);
    }

    private static void index(int number, int count) {
        if (number < 0 || number >= count) {
            throw new IndexOutOfBoundsException();
        }
    }

    private static void argument(boolean right) {
        if (!right) {
            throw new IllegalArgumentException();
        }
    }

    private static void state(boolean right) {
        if (!right) {
            throw new IllegalStateException();
        }
    }

    private static void stepsLeft(Process process) {
        if (process.steps < 1) {
            throw new UnsupportedOperationException();
        }
    }

    private static boolean within(int number, int last) {
        return 0 <= number && number <= last;
    }

    private Row rowOfEntry(int number, int entry) {
        Process process = processes.get(number);
        Entry held = process.entries.get(entry);
        if (held == null) {
            return new Row(List.of(), 0);
        }
        if (number != 0) {
            return rowOfEntry(process.parent, held.of).part(held.from, held.size, held.rights);
        }
        List<Integer> words = new ArrayList<>();
        for (int word = held.from; word < held.from + held.size; word++) {
            words.add(word);
        }
        return new Row(words, 7);
    }

    private Row rowOfCap(int number, Cap cap) {
        return rowOfEntry(number, cap.entry).part(cap.from, cap.size, cap.rights);
    }

    void region(int entry, int first, int size) {
        index(entry, 8);
        argument(first >= 0 && size >= 0 && (long) first + size <= 256);
        if (size == 0) {
            processes.get(0).entries.remove(entry);
        } else {
            processes.get(0).entries.put(entry, new Entry(-1, first, size, 7));
        }
    }

    void make(int number, int parent) {
        if (number < 1 || number > 3) {
            throw new NoSuchElementException();
        }
        process(parent);
        argument(parent < number);
        forget(number);
        processes.put(number, new Process(parent));
    }

    private void forget(int number) {
        processes.remove(number);
        for (int child = 1; child <= 3; child++) {
            if (processes.containsKey(child) && processes.get(child).parent == number) {
                forget(child);
            }
        }
    }

    void grant(int number, int entry, int of, int from, int size, int rights) {
        Process process = process(number);
        if (number == 0) {
            throw new NoSuchElementException();
        }
        index(entry, 8);
        index(of, 8);
        argument(within(from, 256) && within(size, 256) && within(rights, 7));
        process.entries.put(entry, new Entry(of, from, size, rights));
    }

    void steps(int number, int steps) {
        Process process = process(number);
        argument(within(steps, 1000) && process.steps + steps <= 1000000);
        process.steps += steps;
    }

    void load(int number, int slot, int entry, int from, int size, int rights) {
        Process process = process(number);
        index(slot, 14);
        index(entry, 8);
        argument(within(from, 256) && within(size, 256) && within(rights, 7));
        process.set(slot, new Cap(false, -1, entry, from, size, rights));
    }

    void seal(int number, int procedure, int slot) {
        Process process = process(number);
        index(procedure, 4);
        index(slot, 14);
        process.procedures.put(procedure, new ArrayList<>(process.p));
        process.set(slot, new Cap(true, procedure, -1, -1, -1, -1));
    }

    int read(int number, int slot, int i) {
        Process process = process(number);
        int word = wordFor(process, number, slot, i, 1);
        process.steps--;
        return store[word];
    }

    void write(int number, int slot, int i, int v) {
        Process process = process(number);
        int word = wordFor(process, number, slot, i, 2);
        process.steps--;
        store[word] = v;
    }

    private int wordFor(Process process, int number, int slot, int i, int right) {
        index(slot, 14);
        stepsLeft(process);
        Cap cap = process.get(slot);
        state(cap != null && !cap.door);
        Row row = rowOfCap(number, cap);
        state((row.rights & right) == right);
        argument(0 <= i && i < row.words.size());
        return row.words.get(i);
    }

    void refine(int number, int of, int to, int from, int size, int rights) {
        Process process = process(number);
        index(of, 14);
        index(to, 14);
        stepsLeft(process);
        Cap cap = process.get(of);
        state(cap != null && !cap.door);
        argument(from >= 0 && size >= 0 && (long) from + size <= cap.size);
        argument((cap.rights | rights) == cap.rights);
        process.set(to, new Cap(false, -1, cap.entry, cap.from + from, size, rights));
        process.steps--;
    }

    void move(int number, int of, int to) {
        Process process = process(number);
        index(of, 14);
        index(to, 14);
        stepsLeft(process);
        Cap cap = process.get(of);
        state(cap != null);
        state(cap.door || cap.rights >= 4 || to < 10);
        process.set(to, cap);
        process.steps--;
    }

    void drop(int number, int slot) {
        Process process = process(number);
        index(slot, 14);
        stepsLeft(process);
        process.set(slot, null);
        process.steps--;
    }

    int enter(int number, int slot) {
        Process process = process(number);
        index(slot, 14);
        stepsLeft(process);
        Cap cap = process.get(slot);
        state(cap != null && cap.door && process.putBy.size() < 4);
        process.putBy.push(List.of(process.p, process.a));
        process.p = new ArrayList<>(process.procedures.get(cap.procedure));
        process.a = process.n;
        process.n = blank(4);
        process.steps--;
        return process.putBy.size();
    }

    int back(int number) {
        Process process = process(number);
        stepsLeft(process);
        state(!process.putBy.isEmpty());
        List<List<Cap>> last = process.putBy.pop();
        process.p = last.get(0);
        process.n = process.a;
        process.a = last.get(1);
        process.steps--;
        return process.putBy.size();
    }

    int slot(int number, int slot, int what) {
        Process process = process(number);
        index(slot, 14);
        argument(within(what, 8));
        Cap cap = process.get(slot);
        if (cap == null) {
            return what == 0 ? 0 : -1;
        }
        if (cap.door) {
            return what == 0 ? 2 : what == 8 ? cap.procedure : -1;
        }
        Row row = rowOfCap(number, cap);
        int first = row.words.isEmpty() ? -1 : row.words.get(0);
        return new int[] {1, first, row.words.size(), row.rights, cap.entry, cap.from, cap.size, cap.rights, -1}[what];
    }

    int entry(int number, int entry, int what) {
        process(number);
        index(entry, 8);
        argument(within(what, 2));
        Row row = rowOfEntry(number, entry);
        int first = row.words.isEmpty() ? -1 : row.words.get(0);
        return new int[] {first, row.words.size(), row.rights}[what];
    }

    int about(int number, int what) {
        Process process = process(number);
        argument(within(what, 2));
        return new int[] {process.steps, process.parent, process.putBy.size()}[what];
    }

    boolean reaches(int number, int word) {
        Process process = process(number);
        index(word, 256);
        for (int entry = 0; entry < 8; entry++) {
            if (rowOfEntry(number, entry).words.contains(word)) {
                return true;
            }
        }
        List<Cap> caps = new ArrayList<>(process.p);
        caps.addAll(process.a);
        caps.addAll(process.n);
        process.procedures.values().forEach(caps::addAll);
        process.putBy.forEach(lists -> lists.forEach(caps::addAll));
        for (Cap cap : caps) {
            if (cap != null && !cap.door && rowOfCap(number, cap).words.contains(word)) {
                return true;
            }
        }
        return false;
    }

    int look(int word) {
        index(word, 256);
        return store[word];
    }
}
