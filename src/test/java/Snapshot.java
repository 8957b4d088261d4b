import java.util.NoSuchElementException;

/** All that can be asked of a machine without changing it, in one row. */
final class Snapshot {
    private static final int NOT_MADE = Integer.MIN_VALUE;

    private Snapshot() {
    }

    static int[] of(GrantMachine machine) {
        int[] row = new int[256 + 4 * (3 + 8 * 3 + 14 * 9)];
        int at = 0;
        for (int word = 0; word < 256; word++) {
            row[at++] = machine.look(word);
        }
        for (int process = 0; process < 4; process++) {
            if (isMade(machine, process)) {
                at = addProcess(machine, process, row, at);
            } else {
                row[at++] = NOT_MADE;
            }
        }
        return row;
    }

    private static boolean isMade(GrantMachine machine, int process) {
        try {
            machine.about(process, 0);
            return true;
        } catch (NoSuchElementException e) {
            return false;
        }
    }

    private static int addProcess(GrantMachine machine, int process, int[] row, int start) {
        int at = start;
        for (int what = 0; what <= 2; what++) {
            row[at++] = machine.about(process, what);
        }
        for (int entry = 0; entry < 8; entry++) {
            for (int what = 0; what <= 2; what++) {
                row[at++] = machine.entry(process, entry, what);
            }
        }
        for (int slot = 0; slot < 14; slot++) {
            for (int what = 0; what <= 8; what++) {
                row[at++] = machine.slot(process, slot, what);
            }
        }
        return at;
    }
}
