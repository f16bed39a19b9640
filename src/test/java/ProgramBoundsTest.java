/**
 * Each sentence on programs that names a boundary, with both its sides: promises 1, 2, 3, 6 and 7,
 * and what "Terms" says of a program and of "well formed".
 */
public final class ProgramBoundsTest {
    private static final int LEAST = Integer.MIN_VALUE;
    private static final int MOST = Integer.MAX_VALUE;

    private static final String[] TAKE_NOTHING = {"PUSH 1", "LOAD 0", "GO next", "END"};
    private static final String[] TAKE_ONE = {"DROP", "STORE 0", "IF next", "ACT 0", "DUPLICATE"};
    private static final String[] TAKE_TWO = {"ADD", "SUBTRACT", "LESS", "SWAP"};
    private static final String[] RAISE = {"PUSH 1", "LOAD 0", "DUPLICATE"};
    private static final String[] DO_NOT_RAISE = {
        "DROP", "ADD", "SUBTRACT", "LESS", "STORE 0", "GO next", "IF next", "ACT 0", "SWAP", "END"
    };

    public static void main(String[] args) {
        newHasNoProgram();
        newHasOneState();
        newHasNoRules();
        newHasNoRun();
        upTo24Instructions();
        operations0To12();
        clearLeavesNoInstruction();
        itHasAnInstruction();
        cellsOfLoadAndStore();
        actsOfAct();
        instructionsOfGoAndIf();
        instructionsOfGoAndIfIn24();
        numbersOfTheOthers();
        instruction0With0();
        justOneHeight();
        fromIfBothWays();
        behindGoAndEnd();
        findsWhatItTakes();
        leavesAtMost12();
        theNextIsAnInstruction();
        theNextOfTheLastOf24();
        heightsFrom0To12();
        heightsBehindEachOperation();
        heightOfWhatIsNotReached();
        heightOfNoInstruction();
        Checks.finish();
    }

    /** Promise 1: "No program". */
    private static void newHasNoProgram() {
        PolicyLoom loom = new PolicyLoom();
        Checks.no("new: well", loom.well());
        Checks.badState("new: height", () -> loom.height(0));
        Checks.badState("new: enforce", () -> loom.enforce());
        Checks.badState("new: enforced", () -> loom.enforced(0, false));
        Checks.badState("new: start", () -> Checks.start(loom, Checks.PLAIN, 0));
        Checks.same("new: the first instruction", loom.code(Checks.END, 0), 0);
        Checks.yes("new: well with it", loom.well());
    }

    /** Promise 1: "an automaton of one state". */
    private static void newHasOneState() {
        PolicyLoom loom = new PolicyLoom();
        Checks.badArgument("new: from state 1", () -> Checks.rule(loom, 1, 0, 0, 0, 0));
        Checks.badArgument("new: then state 1", () -> Checks.rule(loom, 0, 0, 0, 0, 1));
        Checks.same("new: from 0, then 0", Checks.rule(loom, 0, 0, 0, 0, 0), 0);
    }

    /** Promise 1: "without rules". */
    private static void newHasNoRules() {
        for (int act = 0; act < 8; act++) {
            PolicyLoom loom = Checks.loom("LOAD 0; ACT " + act + "; END");
            Checks.same("new: no test for act " + act, loom.enforce(), 4);
            for (int x : new int[] {LEAST, -1, 0, 1, MOST}) {
                Checks.run(loom, Checks.WATCHED, x);
                Checks.same("new: act " + act + " with " + x, loom.look(Checks.STATUS), Checks.STOPPED);
            }
            loom.rule(0, act, LEAST, MOST, 0);
            Checks.same("new: a test for act " + act, loom.enforce(), 20);
        }
    }

    /** Promise 1: "no run". */
    private static void newHasNoRun() {
        Checks.noRun("new", new PolicyLoom());
    }

    /** Promise 2 and Terms: "up to 24 INSTRUCTIONS, 0, 1, ..", "IndexOutOfBoundsException: there are 24". */
    private static void upTo24Instructions() {
        PolicyLoom loom = new PolicyLoom();
        for (int i = 0; i < 24; i++) {
            Checks.same("instruction", loom.code(Checks.END, 0), i);
        }
        Checks.badIndex("one more than 24", () -> loom.code(Checks.END, 0));
        Checks.badIndex("and again", () -> loom.code(Checks.PUSH, 1));
        Checks.same("the last of 24", loom.height(23), -1);
        Checks.badIndex("behind the last of 24", () -> loom.height(24));
    }

    /** Promise 2: "IllegalArgumentException: no operation 0 .. 12". */
    private static void operations0To12() {
        PolicyLoom loom = new PolicyLoom();
        Checks.badArguments("operation", operation -> loom.code(operation, 0), LEAST, -1, 13, MOST);
        for (int operation = 0; operation <= 12; operation++) {
            Checks.same("operation " + operation, loom.code(operation, 0), operation);
        }
        Checks.badArguments("operation", operation -> loom.code(operation, 0), LEAST, -1, 13, MOST);
        Checks.same("the one behind", loom.code(Checks.END, 0), 13);
    }

    /** Promise 3: "No instructions", whether there were none, one or 24. */
    private static void clearLeavesNoInstruction() {
        PolicyLoom loom = new PolicyLoom();
        for (int count : new int[] {0, 1, 24, 24}) {
            for (int i = 0; i < count; i++) {
                Checks.same("before clear", loom.code(Checks.END, 0), i);
            }
            loom.clear();
            Checks.no("clear of " + count + ": well", loom.well());
            Checks.badState("clear of " + count + ": height", () -> loom.height(0));
            Checks.badState("clear of " + count + ": enforce", () -> loom.enforce());
        }
    }

    /** Terms: "It is WELL FORMED if it has an instruction". */
    private static void itHasAnInstruction() {
        PolicyLoom loom = new PolicyLoom();
        Checks.no("no instruction", loom.well());
        loom.code(Checks.END, 0);
        Checks.yes("one instruction", loom.well());
        loom.clear();
        Checks.no("no instruction again", loom.well());
    }

    /** Terms: "k of each 5 and 6 is 0 .. 6", whether it can be reached or not. */
    private static void cellsOfLoadAndStore() {
        for (int k = 0; k <= 6; k++) {
            well("LOAD " + k + "; END");
            well("PUSH 1; STORE " + k + "; END");
            well("END; LOAD " + k);
            well("END; STORE " + k);
        }
        for (int k : new int[] {LEAST, -1, 7, 8, MOST}) {
            ill("LOAD " + k + "; END");
            ill("PUSH 1; STORE " + k + "; END");
            ill("END; LOAD " + k);
            ill("END; STORE " + k);
        }
    }

    /** Terms: "of each 9 0 .. 7". */
    private static void actsOfAct() {
        for (int k = 0; k <= 7; k++) {
            well("PUSH 1; ACT " + k + "; END");
            well("END; ACT " + k);
        }
        for (int k : new int[] {LEAST, -1, 8, MOST}) {
            ill("PUSH 1; ACT " + k + "; END");
            ill("END; ACT " + k);
        }
    }

    /** Terms: "of each 7 and 8 an instruction's number". */
    private static void instructionsOfGoAndIf() {
        for (int k : new int[] {0, 2}) {
            well("GO " + k + "; END; END");
            well("PUSH 1; IF " + k + "; END");
            well("END; END; GO " + k);
            well("END; END; IF " + k);
        }
        for (int k : new int[] {LEAST, -1, 3, 24, MOST}) {
            ill("GO " + k + "; END; END");
            ill("PUSH 1; IF " + k + "; END");
            ill("END; END; GO " + k);
            ill("END; END; IF " + k);
        }
        PolicyLoom loom = Checks.loom("GO 1");
        Checks.no("GO 1 of one instruction", loom.well());
        loom.code(Checks.END, 0);
        Checks.yes("GO 1 of two instructions", loom.well());
    }

    /** The same where the program has all its instructions. */
    private static void instructionsOfGoAndIfIn24() {
        well("GO 23; " + times(22, "END; ") + "END");
        ill("GO 24; " + times(22, "END; ") + "END");
        well("PUSH 1; IF 23; " + times(21, "END; ") + "END");
        ill("PUSH 1; IF 24; " + times(21, "END; ") + "END");
    }

    /** Terms name no bound for k of the other operations. */
    private static void numbersOfTheOthers() {
        for (int k : new int[] {LEAST, -1, 7, 8, 24, MOST}) {
            well("PUSH " + k + "; DUPLICATE " + k + "; SWAP " + k + "; ADD " + k + "; END " + k);
            well("PUSH 1; PUSH 1; SUBTRACT " + k + "; DROP " + k + "; END");
            well("PUSH 1; PUSH 1; LESS " + k + "; END");
        }
    }

    /** Terms: "instruction 0 with 0". */
    private static void instruction0With0() {
        Checks.same("height of instruction 0", Checks.loom("PUSH 1; END").height(0), 0);
        ill("DROP; END");
        well("PUSH 1; DROP; GO 0");
        ill("PUSH 1; GO 0");
        well("PUSH 1; IF 0; END");
        ill("PUSH 1; DUPLICATE; IF 0; END");
    }

    /** Terms: "each instruction that can be reached is reached with just one HEIGHT of the stack". */
    private static void justOneHeight() {
        well("PUSH 1; DUPLICATE; IF 4; GO 4; END");
        ill("PUSH 1; DUPLICATE; IF 4; DROP; END");
        ill("PUSH 1; DUPLICATE; IF 4; DUPLICATE; END");
        well("PUSH 1; DUPLICATE; STORE 1; GO 1; END");
        ill("PUSH 1; DUPLICATE; GO 1; END");
        ill("PUSH 1; PUSH 1; DROP; DROP; GO 1; END");
        well("GO 3; PUSH 1; GO 3; END");
    }

    /** Terms: "from 8 both ways can be gone", though a run would always go the same one. */
    private static void fromIfBothWays() {
        ill("PUSH 0; IF 3; END; DROP; END");
        well("PUSH 0; IF 3; END; PUSH 1; END");
        ill("PUSH 1; IF 3; DROP; END");
        well("PUSH 1; IF 3; END; END");
        PolicyLoom loom = Checks.loom("PUSH 0; IF 3; END; END");
        Checks.same("on at the next one", loom.height(2), 0);
        Checks.same("on at k", loom.height(3), 0);
    }

    /** Terms: "behind 7 and 12 is not reached by them". */
    private static void behindGoAndEnd() {
        well("GO 2; DROP; END");
        ill("GO 1; DROP; END");
        well("END; DROP; END");
        ill("PUSH 1; IF 3; END; DROP; END");
        Checks.same("behind GO", Checks.loom("GO 2; DROP; END").height(1), -1);
        Checks.same("behind END", Checks.loom("END; DROP; END").height(1), -1);
        Checks.same("behind END, by another way", Checks.loom("GO 2; END; GO 1").height(1), 0);
    }

    /** Terms: "where it finds what it takes". */
    private static void findsWhatItTakes() {
        for (String operation : TAKE_NOTHING) {
            well(behindPushes(0, operation));
        }
        for (String operation : TAKE_ONE) {
            ill(behindPushes(0, operation));
            well(behindPushes(1, operation));
            well("END; " + behindPushes(0, operation).replace("IF 1", "IF 2"));
        }
        for (String operation : TAKE_TWO) {
            ill(behindPushes(0, operation));
            ill(behindPushes(1, operation));
            well(behindPushes(2, operation));
            well("END; " + behindPushes(1, operation));
        }
    }

    /** Terms: "leaves at most 12". */
    private static void leavesAtMost12() {
        for (String operation : RAISE) {
            well(behindPushes(11, operation));
            ill(behindPushes(12, operation));
        }
        for (String operation : DO_NOT_RAISE) {
            well(behindPushes(12, operation));
            ill(behindPushes(13, operation));
        }
        well("END; " + times(13, "PUSH 1; ") + "END");
        ill(times(12, "PUSH 1; ") + "PUSH 1; GO 13");
    }

    /** Terms: "and the next one is an instruction (but for 12)". */
    private static void theNextIsAnInstruction() {
        String[] operations = {
            "PUSH 1", "DROP", "ADD", "SUBTRACT", "LESS", "LOAD 0", "STORE 0", "IF 1", "ACT 0", "SWAP", "DUPLICATE"
        };
        for (String operation : operations) {
            ill("PUSH 1; PUSH 1; " + operation);
            well("PUSH 1; PUSH 1; " + operation + "; END");
            well("PUSH 1; END; " + operation);
        }
        well("PUSH 1; PUSH 1; END");
        well("PUSH 1; PUSH 1; GO 2");
    }

    /** The same where no other instruction can be added. */
    private static void theNextOfTheLastOf24() {
        String ahead = "GO 23; " + times(22, "END; ");
        well(ahead + "END");
        well(ahead + "GO 0");
        ill(ahead + "PUSH 1");
        ill(ahead + "LOAD 0");
        well("END; " + times(22, "END; ") + "PUSH 1");
    }

    /** Promise 7: "The height of the stack with which instruction i is reached". */
    private static void heightsFrom0To12() {
        PolicyLoom loom = Checks.loom(times(12, "PUSH 1; ") + times(11, "DROP; ") + "END");
        for (int i = 0; i <= 12; i++) {
            Checks.same("height up " + i, loom.height(i), i);
        }
        for (int i = 13; i < 24; i++) {
            Checks.same("height down " + i, loom.height(i), 24 - i);
        }
    }

    /** The same behind each operation that finds just what it takes, and behind one that finds 12. */
    private static void heightsBehindEachOperation() {
        String[] operations = {
            "PUSH 1", "LOAD 0", "GO next", "DROP", "STORE 0", "IF next", "ACT 0", "DUPLICATE", "ADD", "SUBTRACT",
            "LESS", "SWAP"
        };
        int[] takes = {0, 0, 0, 1, 1, 1, 1, 1, 2, 2, 2, 2};
        int[] leaves = {1, 1, 0, 0, 0, 0, 0, 2, 1, 1, 1, 2};
        for (int i = 0; i < operations.length; i++) {
            int raised = leaves[i] - takes[i];
            int highest = raised > 0 ? 11 : 12;
            for (int found : new int[] {takes[i], highest}) {
                PolicyLoom loom = Checks.loom(behindPushes(found, operations[i]));
                Checks.same("of " + operations[i], loom.height(found), found);
                Checks.same("behind " + operations[i], loom.height(found + 1), found + raised);
            }
        }
    }

    /** Promise 7: "-1 if it can't be". */
    private static void heightOfWhatIsNotReached() {
        PolicyLoom loom = Checks.loom("GO 2; LOAD 1; PUSH 1; IF 5; END; GO 7; GO 1; END");
        int[] due = {0, -1, 0, 1, 0, 0, -1, 0};
        for (int i = 0; i < due.length; i++) {
            Checks.same("height " + i, loom.height(i), due[i]);
        }
    }

    /** Promise 7: "IndexOutOfBoundsException: no instruction". */
    private static void heightOfNoInstruction() {
        PolicyLoom one = Checks.loom("END");
        Checks.same("of one: 0", one.height(0), 0);
        Checks.badIndexes("of one: height", i -> one.height(i), LEAST, -1, 1, MOST);
        PolicyLoom all = Checks.loom(times(23, "GO 23; ") + "END");
        Checks.same("of 24: 23", all.height(23), 0);
        Checks.badIndexes("of 24: height", i -> all.height(i), LEAST, -1, 24, MOST);
        PolicyLoom fewer = Checks.loom("PUSH 1; DROP; END");
        fewer.clear();
        Checks.write(fewer, Checks.code("PUSH 1; END"));
        Checks.same("of fewer: 1", fewer.height(1), 1);
        Checks.badIndexes("of fewer: height", i -> fewer.height(i), 2, 3);
    }

    private static String times(int count, String text) {
        return text.repeat(count);
    }

    /** So many numbers, the operation, and an END that is its next one. */
    private static String behindPushes(int count, String operation) {
        return times(count, "PUSH 1; ") + operation.replace("next", Integer.toString(count + 1)) + "; END";
    }

    private static void well(String text) {
        PolicyLoom loom = Checks.loom(text);
        Checks.yes(text, loom.well());
        loom.start(Checks.PLAIN, 0);
        Checks.same(text + ": starts", loom.look(Checks.STATUS), Checks.GOES_ON);
    }

    /** Promises 7 to 10: "IllegalStateException: the program is not well formed". */
    private static void ill(String text) {
        PolicyLoom loom = Checks.loom(text);
        Checks.no(text, loom.well());
        Checks.badState(text + ": height", () -> loom.height(0));
        Checks.badState(text + ": enforce", () -> loom.enforce());
        Checks.badState(text + ": enforced", () -> loom.enforced(0, false));
        Checks.badState(text + ": start", () -> Checks.start(loom, Checks.PLAIN, 0));
    }
}
