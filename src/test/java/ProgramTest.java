/** Promises 1, 2, 3, 6 and 7: a new object, code, clear, well and height. */
public final class ProgramTest {

    public static void main(String[] args) {
        newObject();
        codeNumbersInstructions();
        codeRefuses();
        codeEndsRun();
        clearEmptiesProgramAlone();
        numbersOfWellFormedPrograms();
        numbersCountWhereNotReached();
        whatInstructionsTake();
        whatInstructionsLeave();
        oneHeightEach();
        theNextIsAnInstruction();
        heightsOfInstructions();
        heightRefuses();
        wellFollowsTheProgram();
        nothingStaysOfAnotherProgram();
        Checks.finish();
    }

    private static void newObject() {
        PolicyLoom loom = new PolicyLoom();
        Checks.no("new: well", loom.well());
        Checks.noRun("new", loom);
        Checks.same("new: first instruction", loom.code(Checks.PUSH, 1), 0);
        Checks.write(loom, Checks.ACT, 0, Checks.END, 0);
        Checks.same("new: no rules", loom.enforce(), 4);
        Checks.badArgument("new: one state", () -> Checks.rule(loom, 1, 0, 0, 0, 0));
        Checks.badArgument("new: one state then", () -> Checks.rule(loom, 0, 0, 0, 0, 1));
        Checks.rule(loom, 0, 0, 0, 0, 0);
        Checks.same("new: with a rule", loom.enforce(), 20);
    }

    private static void codeNumbersInstructions() {
        PolicyLoom loom = new PolicyLoom();
        for (int i = 0; i < 24; i++) {
            Checks.same("code " + i, loom.code(i % 13, i), i);
        }
        Checks.badIndex("the 25th", () -> loom.code(Checks.END, 0));
        Checks.badArgument("the 25th with no operation", () -> loom.code(13, 0));
        loom.clear();
        Checks.same("code behind clear", loom.code(Checks.END, 0), 0);
    }

    private static void codeRefuses() {
        PolicyLoom loom = Checks.loom(Checks.PUSH, 4, Checks.END, 0);
        int[] wrong = {-1, 13, 14, Integer.MIN_VALUE, Integer.MAX_VALUE};
        loom.start(Checks.PLAIN, 5);
        loom.step(1);
        for (int operation : wrong) {
            Checks.badArgument("code " + operation, () -> loom.code(operation, 0));
        }
        Checks.looks("code that throws keeps the run", loom, Checks.GOES_ON, 1, 1, 0, 0);
        Checks.same("code that throws keeps the cells", loom.cell(0), 5);
        Checks.same("code that throws adds nothing", loom.code(Checks.END, 0), 2);

        PolicyLoom full = new PolicyLoom();
        for (int i = 0; i < 24; i++) {
            full.code(Checks.END, 0);
        }
        full.start(Checks.PLAIN, 5);
        Checks.badIndex("code beyond 24", () -> full.code(Checks.END, 0));
        Checks.same("code beyond 24 keeps the run", full.look(Checks.STATUS), Checks.GOES_ON);
        Checks.yes("code beyond 24 keeps the program", full.well());
    }

    private static void codeEndsRun() {
        PolicyLoom loom = Checks.loom(Checks.PUSH, 3, Checks.ACT, 2, Checks.END, 0);
        loom.start(Checks.PLAIN, 7);
        loom.step(2);
        loom.code(Checks.END, 0);
        Checks.noRun("code", loom);
    }

    private static void clearEmptiesProgramAlone() {
        PolicyLoom loom = Checks.loom(Checks.PUSH, 3, Checks.ACT, 2, Checks.END, 0);
        loom.states(2);
        loom.rule(1, 2, 0, 9, 1);
        loom.start(Checks.PLAIN, 7);
        loom.step(2);
        loom.clear();
        Checks.noRun("clear", loom);
        Checks.no("clear: well", loom.well());
        Checks.badState("clear: height", () -> loom.height(0));
        Checks.write(loom, Checks.PUSH, 3, Checks.ACT, 2, Checks.END, 0);
        Checks.same("clear keeps the automaton", loom.enforce(), 20);
        loom.clear();
        loom.clear();
        Checks.same("clear twice", loom.code(Checks.END, 0), 0);
    }

    private static void numbersOfWellFormedPrograms() {
        well("LOAD 0", Checks.LOAD, 0, Checks.END, 0);
        well("LOAD 6", Checks.LOAD, 6, Checks.END, 0);
        ill("LOAD 7", Checks.LOAD, 7, Checks.END, 0);
        ill("LOAD -1", Checks.LOAD, -1, Checks.END, 0);
        well("STORE 6", Checks.PUSH, 1, Checks.STORE, 6, Checks.END, 0);
        ill("STORE 7", Checks.PUSH, 1, Checks.STORE, 7, Checks.END, 0);
        ill("STORE -1", Checks.PUSH, 1, Checks.STORE, -1, Checks.END, 0);
        well("ACT 0", Checks.PUSH, 1, Checks.ACT, 0, Checks.END, 0);
        well("ACT 7", Checks.PUSH, 1, Checks.ACT, 7, Checks.END, 0);
        ill("ACT 8", Checks.PUSH, 1, Checks.ACT, 8, Checks.END, 0);
        ill("ACT -1", Checks.PUSH, 1, Checks.ACT, -1, Checks.END, 0);
        well("GO to the last", Checks.GO, 1, Checks.END, 0);
        ill("GO behind the last", Checks.GO, 2, Checks.END, 0);
        ill("GO -1", Checks.GO, -1, Checks.END, 0);
        well("IF to the last", Checks.PUSH, 1, Checks.IF, 2, Checks.END, 0);
        ill("IF behind the last", Checks.PUSH, 1, Checks.IF, 3, Checks.END, 0);
        ill("IF -1", Checks.PUSH, 1, Checks.IF, -1, Checks.END, 0);
        well("any k elsewhere", Checks.PUSH, Integer.MIN_VALUE, Checks.DUPLICATE, -5, Checks.SWAP, 99,
                Checks.ADD, 24, Checks.DROP, -1, Checks.END, Integer.MAX_VALUE);
    }

    private static void numbersCountWhereNotReached() {
        ill("LOAD 7 not reached", Checks.END, 0, Checks.LOAD, 7);
        ill("STORE 7 not reached", Checks.END, 0, Checks.STORE, 7);
        ill("ACT 8 not reached", Checks.END, 0, Checks.ACT, 8);
        ill("GO 2 not reached", Checks.END, 0, Checks.GO, 2);
        ill("IF 2 not reached", Checks.END, 0, Checks.IF, 2);
        well("a stack not reached", Checks.END, 0, Checks.SWAP, 0, Checks.ACT, 1);
    }

    private static void whatInstructionsTake() {
        int[] takesOne = {Checks.DROP, Checks.STORE, Checks.ACT, Checks.DUPLICATE};
        for (int operation : takesOne) {
            ill("nothing for " + operation, operation, 0, Checks.END, 0);
            well("one for " + operation, Checks.PUSH, 1, operation, 0, Checks.END, 0);
        }
        ill("nothing for IF", Checks.IF, 1, Checks.END, 0);
        int[] takesTwo = {Checks.ADD, Checks.SUBTRACT, Checks.LESS, Checks.SWAP};
        for (int operation : takesTwo) {
            ill("nothing for " + operation, operation, 0, Checks.END, 0);
            ill("one for " + operation, Checks.PUSH, 1, operation, 0, Checks.END, 0);
            well("two for " + operation, Checks.PUSH, 1, Checks.PUSH, 1, operation, 0, Checks.END, 0);
        }
        well("nothing for GO", Checks.GO, 0);
        well("nothing for END", Checks.END, 0);
    }

    private static void whatInstructionsLeave() {
        well("12 and END", pushed(12, Checks.END, 0));
        ill("13 by PUSH", pushed(13, Checks.END, 0));
        ill("13 by LOAD", pushed(12, Checks.LOAD, 0, Checks.END, 0));
        ill("13 by DUPLICATE", pushed(12, Checks.DUPLICATE, 0, Checks.END, 0));
        well("12 by DUPLICATE", pushed(11, Checks.DUPLICATE, 0, Checks.END, 0));
        well("12 by LOAD", pushed(11, Checks.LOAD, 0, Checks.END, 0));
        well("12 and SWAP", pushed(12, Checks.SWAP, 0, Checks.END, 0));
        well("12 and GO", pushed(12, Checks.GO, 12));
        ill("13 not left by the last one", pushed(12, Checks.PUSH, 1, Checks.GO, 12));
    }

    private static void oneHeightEach() {
        ill("two heights behind IF", Checks.PUSH, 1, Checks.PUSH, 2, Checks.IF, 4, Checks.DROP, 0, Checks.END, 0);
        well("one height behind IF", Checks.PUSH, 1, Checks.PUSH, 2, Checks.IF, 4, Checks.GO, 4, Checks.END, 0);
        ill("GO back higher", Checks.PUSH, 1, Checks.GO, 0);
        ill("IF back lower", Checks.PUSH, 1, Checks.PUSH, 1, Checks.IF, 0, Checks.END, 0);
        well("IF back", Checks.PUSH, 1, Checks.IF, 0, Checks.END, 0);
        well("IF to itself by way of GO", Checks.PUSH, 1, Checks.IF, 3, Checks.GO, 0, Checks.END, 0);
        well("another height not reached", Checks.GO, 2, Checks.PUSH, 1, Checks.END, 0);
        ill("both ways of IF count though one is never gone",
                Checks.PUSH, 0, Checks.IF, 3, Checks.END, 0, Checks.DROP, 0, Checks.END, 0);
    }

    private static void theNextIsAnInstruction() {
        ill("no instruction");
        ill("PUSH last", Checks.PUSH, 1);
        ill("ACT last", Checks.PUSH, 1, Checks.ACT, 1);
        ill("IF last", Checks.PUSH, 1, Checks.IF, 0);
        well("GO last", Checks.GO, 0);
        well("END last", Checks.END, 0);
        well("PUSH last, not reached", Checks.END, 0, Checks.PUSH, 1);
        ill("PUSH last, reached by GO", Checks.GO, 2, Checks.END, 0, Checks.PUSH, 1);
        int[] full = new int[48];
        ill("24 PUSH", full);
        full[0] = Checks.GO;
        full[1] = 23;
        full[46] = Checks.END;
        well("24 with a way over", full);
    }

    private static void heightsOfInstructions() {
        PolicyLoom loom = Checks.loom(
                Checks.GO, 3,
                Checks.DROP, 0,
                Checks.END, 0,
                Checks.PUSH, 1,
                Checks.DUPLICATE, 0,
                Checks.LOAD, 2,
                Checks.SWAP, 0,
                Checks.LESS, 0,
                Checks.IF, 4,
                Checks.STORE, 1,
                Checks.END, 0,
                Checks.PUSH, 1);
        int[] due = {0, -1, -1, 0, 1, 2, 3, 3, 2, 1, 0, -1};
        Checks.yes("heights: well", loom.well());
        for (int i = 0; i < due.length; i++) {
            Checks.same("height " + i, loom.height(i), due[i]);
        }
        PolicyLoom high = Checks.loom(pushed(12, Checks.END, 0));
        Checks.same("height 12", high.height(12), 12);
        PolicyLoom taken = Checks.loom(Checks.PUSH, 1, Checks.PUSH, 1, Checks.ADD, 0, Checks.PUSH, 1,
                Checks.SUBTRACT, 0, Checks.ACT, 0, Checks.PUSH, 1, Checks.DROP, 0, Checks.END, 0);
        int[] dueTaken = {0, 1, 2, 1, 2, 1, 0, 1, 0};
        for (int i = 0; i < dueTaken.length; i++) {
            Checks.same("height with takers " + i, taken.height(i), dueTaken[i]);
        }
    }

    private static void heightRefuses() {
        PolicyLoom loom = Checks.loom(Checks.PUSH, 1, Checks.END, 0);
        Checks.badIndex("height -1", () -> loom.height(-1));
        Checks.badIndex("height 2", () -> loom.height(2));
        Checks.badIndex("height least", () -> loom.height(Integer.MIN_VALUE));
        Checks.badIndex("height most", () -> loom.height(Integer.MAX_VALUE));
        PolicyLoom ill = Checks.loom(Checks.PUSH, 1);
        Checks.badState("height, ill", () -> ill.height(0));
        Checks.badState("height, ill and no instruction", () -> ill.height(1));
    }

    private static void wellFollowsTheProgram() {
        PolicyLoom loom = Checks.loom(Checks.PUSH, 1);
        Checks.no("before END", loom.well());
        loom.code(Checks.END, 0);
        Checks.yes("with END", loom.well());
        loom.code(Checks.LOAD, 7);
        Checks.no("with LOAD 7", loom.well());
        loom.clear();
        Checks.write(loom, Checks.GO, 1, Checks.END, 0, Checks.PUSH, 1);
        Checks.yes("another program", loom.well());
        Checks.same("another program: height", loom.height(2), -1);
        loom.start(Checks.PLAIN, 0);
        Checks.yes("well beside a run", loom.well());
        Checks.same("well keeps the run", loom.look(Checks.STATUS), Checks.GOES_ON);
    }

    private static void nothingStaysOfAnotherProgram() {
        PolicyLoom loom = new PolicyLoom();
        for (int times = 0; times < 3; times++) {
            loom.clear();
            for (int i = 0; i < 12; i++) {
                loom.code(Checks.PUSH, i);
                Checks.no("without END", loom.well());
            }
            loom.code(Checks.END, 0);
            Checks.yes("long", loom.well());
            Checks.same("long: height", loom.height(12), 12);
            loom.clear();
            Checks.write(loom, Checks.END, 0, Checks.DROP, 0, Checks.SWAP, 0);
            Checks.yes("short, the rest not reached", loom.well());
            Checks.same("short: height 0", loom.height(0), 0);
            Checks.same("short: height 1", loom.height(1), -1);
            Checks.same("short: height 2", loom.height(2), -1);
        }
    }

    private static int[] pushed(int times, int... rest) {
        int[] code = new int[2 * times + rest.length];
        System.arraycopy(rest, 0, code, 2 * times, rest.length);
        return code;
    }

    private static void well(String what, int... code) {
        Checks.yes(what, Checks.loom(code).well());
    }

    private static void ill(String what, int... code) {
        PolicyLoom loom = Checks.loom(code);
        Checks.no(what, loom.well());
        Checks.badState(what + ": height", () -> loom.height(0));
        Checks.badState(what + ": enforce", () -> loom.enforce());
        Checks.badState(what + ": enforced", () -> loom.enforced(0, false));
        Checks.badState(what + ": start", () -> Checks.start(loom, 0, 0));
        Checks.noRun(what, loom);
    }
}
