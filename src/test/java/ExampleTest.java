/** The calls of README.md's example, copied by hand and in its order, with what its comments tell. */
public final class ExampleTest {
    public static void main(String[] args) {
        GrantMachine machine = new GrantMachine();
        memory(machine);
        aProcedure(machine);
        takenAway(machine);
        Check.end();
    }

    private static void memory(GrantMachine machine) {
        machine.region(0, 10, 20);
        machine.make(1, 0);
        machine.grant(1, 0, 0, 5, 10, 7);
        machine.load(1, 0, 0, 2, 4, 7);
        machine.steps(1, 100);
        machine.write(1, 0, 0, 77);
        Check.same("read(1, 0, 0)", machine.read(1, 0, 0), 77);
        Check.same("look(17)", machine.look(17), 77);
        machine.refine(1, 0, 1, 0, 2, 5);
        reachesWords(machine, 1, 17, 2, 5);
        Check.yes("write(1, 1, 0, 5) is refused", isRefused(machine, new Call("write", 1, 1, 0, 5)));
    }

    private static void aProcedure(GrantMachine machine) {
        machine.load(1, 5, 0, 9, 1, 3);
        machine.seal(1, 0, 2);
        machine.drop(1, 5);
        machine.move(1, 1, 10);
        Check.same("enter(1, 2)", machine.enter(1, 2), 1);
        reachesWords(machine, 6, 17, 2, 5);
        reachesWords(machine, 5, 24, 1, 3);
        machine.write(1, 5, 0, machine.read(1, 6, 0) + 1);
        Check.same("back(1)", machine.back(1), 0);
        Check.same("slot(1, 5, 0)", machine.slot(1, 5, 0), 0);
        Check.same("look(24)", machine.look(24), 78);
    }

    private static void takenAway(GrantMachine machine) {
        Check.same("about(1, 0)", machine.about(1, 0), 91);
        Check.yes("reaches(1, 17)", machine.reaches(1, 17));
        machine.region(0, 10, 0);
        Check.yes("not reaches(1, 17)", !machine.reaches(1, 17));
        Check.yes("read(1, 0, 0) is refused", isRefused(machine, new Call("read", 1, 0, 0)));
        Check.same("look(17)", machine.look(17), 77);
    }

    private static void reachesWords(GrantMachine machine, int slot, int first, int count, int rights) {
        Check.same("first word of slot " + slot, machine.slot(1, slot, 1), first);
        Check.same("words of slot " + slot, machine.slot(1, slot, 2), count);
        Check.same("rights of slot " + slot, machine.slot(1, slot, 3), rights);
    }

    private static boolean isRefused(GrantMachine machine, Call call) {
        return call.on(machine).equals(Call.THROWS + "IllegalStateException");
    }
}
