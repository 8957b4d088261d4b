import java.util.ArrayList;
import java.util.HashMap;
import java.util.List;
import java.util.Map;
import java.util.Random;

/**
 * All promises together: runs of 512 calls, drawn from fixed seeds, on the program and on LiteralModel; each call's
 * answer or exception must be the same.
 */
public final class ModelTest {
    private static final int RUNS = 2000;
    private static final int[] ODD = {-1, -2, 256, 257, 1000, 1001, Integer.MAX_VALUE, Integer.MIN_VALUE};

    /** How often a call is drawn, and below which bound each of its arguments mostly is. */
    private record Draw(String name, int weight, int... bounds) {
    }

    private static final List<Draw> DRAWS = List.of(
            new Draw("region", 60, 8, 150, 120),
            // Seldom, so that something grows before it is cleared.
            new Draw("make", 5, 4, 3),
            new Draw("grant", 120, 4, 8, 8, 12, 120, 8),
            new Draw("steps", 40, 4, 40),
            new Draw("load", 160, 4, 14, 8, 12, 60, 8),
            new Draw("seal", 40, 4, 4, 14),
            new Draw("read", 80, 4, 14, 8),
            new Draw("write", 80, 4, 14, 8, 1000000),
            new Draw("refine", 100, 4, 14, 14, 10, 20, 8),
            new Draw("move", 100, 4, 14, 14),
            new Draw("drop", 30, 4, 14),
            new Draw("enter", 50, 4, 14),
            new Draw("back", 40, 4),
            new Draw("slot", 300, 4, 14, 9),
            new Draw("entry", 100, 4, 8, 3),
            new Draw("about", 40, 4, 3),
            new Draw("reaches", 60, 4, 256),
            new Draw("look", 20, 256));

    /** Of a slot drawn blindly these calls would mostly be refused, and four lists hardly ever put by. */
    private static final Map<String, String> WANTED_KINDS =
            Map.of("read", "1", "write", "1", "refine", "1", "move", "1", "enter", "2");

    private final Random random;
    private final GrantMachine machine = new GrantMachine();
    private final LiteralModel model = new LiteralModel();
    private final List<Call> calls = new ArrayList<>();

    private ModelTest(long seed) {
        random = new Random(seed);
    }

    public static void main(String[] args) {
        Map<String, Integer> done = new HashMap<>();
        Map<String, Integer> refused = new HashMap<>();
        for (int seed = 0; seed < RUNS && Check.wrongSoFar() == 0; seed++) {
            new ModelTest(seed).run(done, refused);
        }
        for (Draw draw : DRAWS) {
            Check.yes(draw.name + " was often done", done.getOrDefault(draw.name, 0) > 200);
            Check.yes(draw.name + " was often refused", refused.getOrDefault(draw.name, 0) > 200);
        }
        Check.end();
    }

    private void run(Map<String, Integer> done, Map<String, Integer> refused) {
        for (int process = 1; process <= 3; process++) {
            compare(new Call("make", process, random.nextInt(process)));
        }
        while (calls.size() < Run.MOST_CALLS && Check.wrongSoFar() == 0) {
            Call call = draw();
            boolean wasDone = compare(call);
            (wasDone ? done : refused).merge(call.name(), 1, Integer::sum);
        }
    }

    private boolean compare(Call call) {
        calls.add(call);
        String due = call.on(model);
        String got = call.on(machine);
        if (!got.equals(due)) {
            Check.complain(calls + "\nthe last: " + got + ", due is " + due);
        }
        return !due.startsWith(Call.THROWS);
    }

    private Call draw() {
        Draw drawn = drawByWeight();
        int[] arguments = new int[drawn.bounds.length];
        for (int i = 0; i < arguments.length; i++) {
            arguments[i] = below(drawn.bounds[i]);
        }
        if (WANTED_KINDS.containsKey(drawn.name)) {
            arguments[1] = slotOfKind(WANTED_KINDS.get(drawn.name), arguments[0], arguments[1]);
        }
        return new Call(drawn.name, arguments);
    }

    private Draw drawByWeight() {
        int left = random.nextInt(DRAWS.stream().mapToInt(Draw::weight).sum());
        int at = 0;
        while (left >= DRAWS.get(at).weight) {
            left -= DRAWS.get(at++).weight;
        }
        return DRAWS.get(at);
    }

    /** Mostly a number below the bound, at times one at the edge or far from it. */
    private int below(int bound) {
        int draw = random.nextInt(100);
        if (draw < 96) {
            return random.nextInt(bound);
        }
        return draw < 98 ? bound : ODD[random.nextInt(ODD.length)];
    }

    /** Mostly a slot that has such a capability, if there is one. */
    private int slotOfKind(String kind, int process, int drawn) {
        int start = random.nextInt(14);
        for (int n = 0; n < 14 && start > 0; n++) {
            int slot = (start + n) % 14;
            if (new Call("slot", process, slot, 0).on(model).equals(kind)) {
                return slot;
            }
        }
        return drawn;
    }
}
