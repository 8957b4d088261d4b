import java.util.ArrayList;
import java.util.List;

/**
 * All that can be found out of an object after a run of calls: what can be asked, and what shows in the slots when a
 * process comes back, or enters by a door that it comes upon.
 */
final class View {
    private static final String DOOR = "2";

    private final List<String> answers = new ArrayList<>();

    private View() {
    }

    static List<String> after(List<Call> run) {
        View view = new View();
        view.ask(run, words());
        for (int process = 0; process < 4; process++) {
            boolean made = !new Call("about", process, 0).on(Run.play(run)).startsWith(Call.THROWS);
            view.answers.add("process " + process + (made ? " is made" : " is not made"));
            if (made) {
                view.ask(run, listsOf(process));
                view.comeBackAndEnter(run, process);
            }
        }
        return view.answers;
    }

    private void comeBackAndEnter(List<Call> run, int process) {
        List<Call> longer = Run.with(run, new Call("steps", process, 9));
        Call back = new Call("back", process);
        boolean canComeBack = true;
        while (canComeBack) {
            ask(longer, slotsOf(process));
            enterByAllDoors(longer, process);
            canComeBack = !back.on(Run.play(longer)).startsWith(Call.THROWS);
            longer = Run.with(longer, back);
        }
    }

    private void enterByAllDoors(List<Call> run, int process) {
        GrantMachine machine = Run.play(run);
        for (int slot = 0; slot < 14; slot++) {
            if (new Call("slot", process, slot, 0).on(machine).equals(DOOR)) {
                ask(Run.with(run, new Call("enter", process, slot)), slotsOf(process));
            }
        }
    }

    /** Asks new objects, as many as are needed for none to be used beyond its last promised call. */
    private void ask(List<Call> run, List<Call> questions) {
        GrantMachine machine = Run.play(run);
        int made = run.size();
        for (Call question : questions) {
            if (made == Run.MOST_CALLS) {
                machine = Run.play(run);
                made = run.size();
            }
            answers.add(question.on(machine));
            made++;
        }
    }

    private static List<Call> words() {
        List<Call> questions = new ArrayList<>();
        for (int word = 0; word < 256; word++) {
            questions.add(new Call("look", word));
        }
        return questions;
    }

    private static List<Call> listsOf(int process) {
        List<Call> questions = new ArrayList<>();
        for (int what = 0; what <= 2; what++) {
            questions.add(new Call("about", process, what));
            for (int entry = 0; entry < 8; entry++) {
                questions.add(new Call("entry", process, entry, what));
            }
        }
        for (int word = 0; word < 256; word++) {
            questions.add(new Call("reaches", process, word));
        }
        return questions;
    }

    private static List<Call> slotsOf(int process) {
        List<Call> questions = new ArrayList<>();
        for (int slot = 0; slot < 14; slot++) {
            for (int what = 0; what <= 8; what++) {
                questions.add(new Call("slot", process, slot, what));
            }
        }
        return questions;
    }
}
