import java.util.ArrayList;
import java.util.Arrays;
import java.util.List;
import java.util.Random;
import java.util.function.LongSupplier;

/**
 * All promises together: runs of 512 calls, drawn from fixed seeds, on the program and on LiteralModel; each call's
 * answer or exception must be the same, and at times all that can be asked.
 */
public final class ModelTest {
    private static final int RUNS = 600;
    private static final int CALLS = 512;
    private static final int[] ODD = {-1, -2, 256, 257, 1000, 1001, Integer.MAX_VALUE, Integer.MIN_VALUE};
    private static final String[] NAMES = {
        "region", "make", "grant", "steps", "load", "seal", "read", "write", "refine",
        "move", "drop", "enter", "back", "slot", "entry", "about", "reaches", "look"};
    private static final int[] COUNTS = {3, 2, 6, 2, 6, 3, 3, 4, 6, 3, 2, 2, 1, 3, 3, 2, 2, 1};
    /** How often each is drawn: make seldom, so that something grows before it is cleared. */
    private static final int[] WEIGHTS = {4, 2, 8, 4, 10, 8, 8, 8, 10, 10, 3, 14, 8, 4, 4, 2, 6, 2};

    private final Random random;
    private final GrantMachine machine = new GrantMachine();
    private final LiteralModel model = new LiteralModel();
    private final List<String> calls = new ArrayList<>();

    private ModelTest(long seed) {
        random = new Random(seed);
    }

    public static void main(String[] args) {
        int[] done = new int[NAMES.length];
        int[] refused = new int[NAMES.length];
        for (int seed = 0; seed < RUNS && Check.wrongSoFar() == 0; seed++) {
            new ModelTest(seed).run(done, refused);
        }
        for (int call = 0; call < NAMES.length; call++) {
            Check.yes(NAMES[call] + " was often done and refused", done[call] > 100 && refused[call] > 100);
        }
        Check.end();
    }

    private void run(int[] done, int[] refused) {
        for (int process = 1; process <= 3; process++) {
            compare(1, new int[] {process, random.nextInt(process), 0, 0, 0, 0});
        }
        for (int n = 3; n < CALLS && Check.wrongSoFar() == 0; n++) {
            int call = drawCall();
            boolean wasDone = compare(call, drawArguments(call));
            (wasDone ? done : refused)[call]++;
            if (n % 16 == 0) {
                compareAll();
            }
        }
    }

    private boolean compare(int call, int[] a) {
        calls.add(NAMES[call] + Arrays.toString(Arrays.copyOf(a, COUNTS[call])));
        String due = outcome(() -> onModel(call, a));
        String got = outcome(() -> onMachine(call, a));
        if (!got.equals(due)) {
            Check.complain(calls + "\nthe last answered " + got + ", due is " + due);
        }
        return !due.startsWith("class");
    }

    private void compareAll() {
        for (int process = 0; process < 4; process++) {
            for (int n = 0; n < 14; n++) {
                for (int what = 0; what <= 8; what++) {
                    compareQuietly(13, process, n, what);
                }
                for (int what = 0; what <= 2; what++) {
                    compareQuietly(14, process, n, what);
                }
            }
            for (int what = 0; what <= 2; what++) {
                compareQuietly(15, process, what, 0);
            }
            for (int word = random.nextInt(32); word < 256; word += 32) {
                compareQuietly(16, process, word, 0);
            }
        }
        for (int word = 0; word < 256; word++) {
            compareQuietly(17, word, 0, 0);
        }
    }

    private void compareQuietly(int call, int a, int b, int c) {
        compare(call, new int[] {a, b, c, 0, 0, 0});
        calls.remove(calls.size() - 1);
    }

    private static String outcome(LongSupplier call) {
        try {
            return Long.toString(call.getAsLong());
        } catch (RuntimeException e) {
            return e.getClass().toString();
        }
    }

    private int drawCall() {
        int left = random.nextInt(Arrays.stream(WEIGHTS).sum());
        int call = 0;
        while (left >= WEIGHTS[call]) {
            left -= WEIGHTS[call++];
        }
        return call == 1 && random.nextInt(4) != 0 ? 4 : call;
    }

    private int[] drawArguments(int call) {
        switch (call) {
            case 0: return new int[] {below(8), below(200), below(120), 0, 0, 0};
            case 1: return new int[] {below(4), below(3), 0, 0, 0, 0};
            case 2: return new int[] {below(4), below(8), below(8), below(30), below(120), below(8)};
            case 3: return new int[] {below(4), below(40), 0, 0, 0, 0};
            case 4: return new int[] {below(4), below(14), below(8), below(20), below(60), below(8)};
            case 5: return new int[] {below(4), below(4), below(14), 0, 0, 0};
            case 6: return new int[] {below(4), below(14), below(20), 0, 0, 0};
            case 7: return new int[] {below(4), below(14), below(20), random.nextInt(), 0, 0};
            case 8: return new int[] {below(4), below(14), below(14), below(10), below(20), below(8)};
            case 9: return new int[] {below(4), below(14), below(14), 0, 0, 0};
            case 10: return new int[] {below(4), below(14), 0, 0, 0, 0};
            case 11: return new int[] {below(4), doorOrAny(), 0, 0, 0, 0};
            case 12: return new int[] {below(4), 0, 0, 0, 0, 0};
            case 13: return new int[] {below(4), below(14), below(9), 0, 0, 0};
            case 14: return new int[] {below(4), below(8), below(3), 0, 0, 0};
            case 15: return new int[] {below(4), below(3), 0, 0, 0, 0};
            case 16: return new int[] {below(4), below(256), 0, 0, 0, 0};
            default: return new int[] {below(256), 0, 0, 0, 0, 0};
        }
    }

    /** Mostly a number below the bound, at times one at the edge or far from it. */
    private int below(int bound) {
        int draw = random.nextInt(100);
        if (draw < 96) {
            return random.nextInt(bound);
        }
        return draw < 98 ? bound : ODD[random.nextInt(ODD.length)];
    }

    /** A slot of process 0 with a door, if there is one, else any: four lists are put by too seldom otherwise. */
    private int doorOrAny() {
        int slot = random.nextInt(14);
        for (int n = 0; n < 14; n++) {
            if (machine.slot(0, (slot + n) % 14, 0) == 2) {
                return (slot + n) % 14;
            }
        }
        return below(14);
    }

    private long onMachine(int call, int[] a) {
        switch (call) {
            case 0: machine.region(a[0], a[1], a[2]); return 0;
            case 1: machine.make(a[0], a[1]); return 0;
            case 2: machine.grant(a[0], a[1], a[2], a[3], a[4], a[5]); return 0;
            case 3: machine.steps(a[0], a[1]); return 0;
            case 4: machine.load(a[0], a[1], a[2], a[3], a[4], a[5]); return 0;
            case 5: machine.seal(a[0], a[1], a[2]); return 0;
            case 6: return machine.read(a[0], a[1], a[2]);
            case 7: machine.write(a[0], a[1], a[2], a[3]); return 0;
            case 8: machine.refine(a[0], a[1], a[2], a[3], a[4], a[5]); return 0;
            case 9: machine.move(a[0], a[1], a[2]); return 0;
            case 10: machine.drop(a[0], a[1]); return 0;
            case 11: return machine.enter(a[0], a[1]);
            case 12: return machine.back(a[0]);
            case 13: return machine.slot(a[0], a[1], a[2]);
            case 14: return machine.entry(a[0], a[1], a[2]);
            case 15: return machine.about(a[0], a[1]);
            case 16: return machine.reaches(a[0], a[1]) ? 1 : 0;
            default: return machine.look(a[0]);
        }
    }

    private long onModel(int call, int[] a) {
        switch (call) {
            case 0: model.region(a[0], a[1], a[2]); return 0;
            case 1: model.make(a[0], a[1]); return 0;
            case 2: model.grant(a[0], a[1], a[2], a[3], a[4], a[5]); return 0;
            case 3: model.steps(a[0], a[1]); return 0;
            case 4: model.load(a[0], a[1], a[2], a[3], a[4], a[5]); return 0;
            case 5: model.seal(a[0], a[1], a[2]); return 0;
            case 6: return model.read(a[0], a[1], a[2]);
            case 7: model.write(a[0], a[1], a[2], a[3]); return 0;
            case 8: model.refine(a[0], a[1], a[2], a[3], a[4], a[5]); return 0;
            case 9: model.move(a[0], a[1], a[2]); return 0;
            case 10: model.drop(a[0], a[1]); return 0;
            case 11: return model.enter(a[0], a[1]);
            case 12: return model.back(a[0]);
            case 13: return model.slot(a[0], a[1], a[2]);
            case 14: return model.entry(a[0], a[1], a[2]);
            case 15: return model.about(a[0], a[1]);
            case 16: return model.reaches(a[0], a[1]) ? 1 : 0;
            default: return model.look(a[0]);
        }
    }
}
