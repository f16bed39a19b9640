/** Promises 2, 3, 6 and 7 in ordinary use: code, clear, well and height. */
public final class ProgramTest {

    public static void main(String[] args) {
        clearEmptiesProgramAlone();
        heightsOfInstructions();
        wellFollowsTheProgram();
        nothingStaysOfAnotherProgram();
        Checks.finish();
    }

    private static void clearEmptiesProgramAlone() {
        PolicyLoom loom = Checks.loom(Checks.PUSH, 3, Checks.ACT, 2, Checks.END, 0);
        loom.states(2);
        loom.rule(1, 2, 0, 9, 1);
        loom.start(Checks.PLAIN, 7);
        loom.step(2);
        loom.clear();
        Checks.noRun("clear", loom);
        Checks.no("clear: well", loom.well());
        Checks.badState("clear: height", () -> loom.height(0));
        Checks.write(loom, Checks.PUSH, 3, Checks.ACT, 2, Checks.END, 0);
        Checks.same("clear keeps the automaton", loom.enforce(), 20);
        loom.clear();
        loom.clear();
        Checks.same("clear twice", loom.code(Checks.END, 0), 0);
    }

    private static void heightsOfInstructions() {
        PolicyLoom loom = Checks.loom(
                Checks.GO, 3,
                Checks.DROP, 0,
                Checks.END, 0,
                Checks.PUSH, 1,
                Checks.DUPLICATE, 0,
                Checks.LOAD, 2,
                Checks.SWAP, 0,
                Checks.LESS, 0,
                Checks.IF, 4,
                Checks.STORE, 1,
                Checks.END, 0,
                Checks.PUSH, 1);
        int[] due = {0, -1, -1, 0, 1, 2, 3, 3, 2, 1, 0, -1};
        Checks.yes("heights: well", loom.well());
        for (int i = 0; i < due.length; i++) {
            Checks.same("height " + i, loom.height(i), due[i]);
        }
        PolicyLoom taken = Checks.loom(Checks.PUSH, 1, Checks.PUSH, 1, Checks.ADD, 0, Checks.PUSH, 1,
                Checks.SUBTRACT, 0, Checks.ACT, 0, Checks.PUSH, 1, Checks.DROP, 0, Checks.END, 0);
        int[] dueTaken = {0, 1, 2, 1, 2, 1, 0, 1, 0};
        for (int i = 0; i < dueTaken.length; i++) {
            Checks.same("height with takers " + i, taken.height(i), dueTaken[i]);
        }
    }

    private static void wellFollowsTheProgram() {
        PolicyLoom loom = Checks.loom(Checks.PUSH, 1);
        Checks.no("before END", loom.well());
        loom.code(Checks.END, 0);
        Checks.yes("with END", loom.well());
        loom.code(Checks.LOAD, 7);
        Checks.no("with LOAD 7", loom.well());
        loom.clear();
        Checks.write(loom, Checks.GO, 1, Checks.END, 0, Checks.PUSH, 1);
        Checks.yes("another program", loom.well());
        Checks.same("another program: height", loom.height(2), -1);
        loom.start(Checks.PLAIN, 0);
        Checks.yes("well beside a run", loom.well());
        Checks.same("well keeps the run", loom.look(Checks.STATUS), Checks.GOES_ON);
    }

    private static void nothingStaysOfAnotherProgram() {
        PolicyLoom loom = new PolicyLoom();
        for (int times = 0; times < 3; times++) {
            loom.clear();
            for (int i = 0; i < 12; i++) {
                loom.code(Checks.PUSH, i);
                Checks.no("without END", loom.well());
            }
            loom.code(Checks.END, 0);
            Checks.yes("long", loom.well());
            Checks.same("long: height", loom.height(12), 12);
            loom.clear();
            Checks.write(loom, Checks.END, 0, Checks.DROP, 0, Checks.SWAP, 0);
            Checks.yes("short, the rest not reached", loom.well());
            Checks.same("short: height 0", loom.height(0), 0);
            Checks.same("short: height 1", loom.height(1), -1);
            Checks.same("short: height 2", loom.height(2), -1);
        }
    }
}
