/** Promises 8 and 9: enforce and enforced. */
public final class EnforceTest {

    public static void main(String[] args) {
        withoutActs();
        stopAloneWithoutRules();
        testsOfTwoStates();
        wholeListingWithJumps();
        theLargest();
        enforcedFollowsChanges();
        enforcedKeepsRun();
        refuses();
        Checks.finish();
    }

    private static void withoutActs() {
        PolicyLoom loom = Checks.loom(Checks.PUSH, -3, Checks.DROP, 17, Checks.GO, 3, Checks.END, 5);
        loom.rule(0, 0, 0, 0, 0);
        Checks.listing("no acts", loom, Checks.PUSH, -3, Checks.DROP, 17, Checks.GO, 3, Checks.END, 5);
    }

    private static void stopAloneWithoutRules() {
        PolicyLoom loom = Checks.loom(Checks.PUSH, 1, Checks.ACT, 4, Checks.GO, 0);
        loom.rule(0, 3, 0, 0, 0);
        Checks.listing("no rule", loom, Checks.PUSH, 1, Checks.END, 0, Checks.ACT, 4, Checks.GO, 0);
    }

    private static void testsOfTwoStates() {
        PolicyLoom loom = Checks.loom(Checks.LOAD, 0, Checks.ACT, 5, Checks.END, 0);
        loom.states(4);
        loom.rule(3, 5, -7, 20, 1);
        loom.rule(1, 5, Integer.MIN_VALUE, Integer.MAX_VALUE, 3);
        Checks.listing("two states", loom,
                Checks.LOAD, 0,
                Checks.LOAD, 7, Checks.PUSH, 1, Checks.SUBTRACT, 0, Checks.IF, 17,
                Checks.DUPLICATE, 0, Checks.PUSH, Integer.MIN_VALUE, Checks.LESS, 0, Checks.IF, 33,
                Checks.DUPLICATE, 0, Checks.PUSH, Integer.MAX_VALUE, Checks.SWAP, 0, Checks.LESS, 0, Checks.IF, 33,
                Checks.PUSH, 3, Checks.STORE, 7, Checks.GO, 34,
                Checks.LOAD, 7, Checks.PUSH, 3, Checks.SUBTRACT, 0, Checks.IF, 33,
                Checks.DUPLICATE, 0, Checks.PUSH, -7, Checks.LESS, 0, Checks.IF, 33,
                Checks.DUPLICATE, 0, Checks.PUSH, 20, Checks.SWAP, 0, Checks.LESS, 0, Checks.IF, 33,
                Checks.PUSH, 1, Checks.STORE, 7, Checks.GO, 34,
                Checks.END, 0,
                Checks.ACT, 5,
                Checks.END, 0);
    }

    private static void wholeListingWithJumps() {
        PolicyLoom loom = Checks.loom(
                Checks.PUSH, 1,
                Checks.DUPLICATE, 9,
                Checks.IF, 4,
                Checks.GO, 5,
                Checks.ACT, 1,
                Checks.PUSH, 2,
                Checks.ACT, 2,
                Checks.GO, 6,
                Checks.GO, 7,
                Checks.IF, 4);
        Checks.no("jumps: heights differ", loom.well());
        loom.clear();
        Checks.write(loom,
                Checks.PUSH, 1,
                Checks.DUPLICATE, 9,
                Checks.IF, 4,
                Checks.GO, 4,
                Checks.ACT, 1,
                Checks.PUSH, 2,
                Checks.ACT, 2,
                Checks.GO, 0,
                Checks.GO, 6,
                Checks.IF, 7,
                Checks.GO, 9);
        loom.states(2);
        loom.rule(1, 1, 3, 4, 0);
        Checks.yes("jumps: well", loom.well());
        Checks.listing("jumps", loom,
                Checks.PUSH, 1,
                Checks.DUPLICATE, 9,
                Checks.IF, 4,
                Checks.GO, 4,
                Checks.LOAD, 7, Checks.PUSH, 1, Checks.SUBTRACT, 0, Checks.IF, 20,
                Checks.DUPLICATE, 0, Checks.PUSH, 3, Checks.LESS, 0, Checks.IF, 20,
                Checks.DUPLICATE, 0, Checks.PUSH, 4, Checks.SWAP, 0, Checks.LESS, 0, Checks.IF, 20,
                Checks.PUSH, 0, Checks.STORE, 7, Checks.GO, 21,
                Checks.END, 0,
                Checks.ACT, 1,
                Checks.PUSH, 2,
                Checks.END, 0,
                Checks.ACT, 2,
                Checks.GO, 0,
                Checks.GO, 23,
                Checks.IF, 25,
                Checks.GO, 27);
    }

    private static void theLargest() {
        PolicyLoom loom = Checks.loom(Checks.GO, 0);
        for (int i = 1; i < 24; i++) {
            loom.code(Checks.ACT, 7);
        }
        loom.states(4);
        for (int state = 0; state < 4; state++) {
            loom.rule(state, 7, state, 100 + state, 3 - state);
        }
        Checks.same("the largest", loom.enforce(), 1 + 23 * 66);
        for (int i = 1; i < 24; i++) {
            int act = 66 * i;
            Checks.same("act " + i, loom.enforced(act, false), Checks.ACT);
            Checks.same("stop " + i, loom.enforced(act - 1, false), Checks.END);
            for (int state = 0; state < 4; state++) {
                int test = act - 65 + 16 * state;
                Checks.same("state of a test", loom.enforced(test + 1, true), state);
                Checks.same("next of a test", loom.enforced(test + 3, true), test + 16);
                Checks.same("lowest of a test", loom.enforced(test + 5, true), state);
                Checks.same("highest of a test", loom.enforced(test + 9, true), 100 + state);
                Checks.same("then of a test", loom.enforced(test + 13, true), 3 - state);
                Checks.same("a test goes to", loom.enforced(test + 15, true), act);
            }
        }
        Checks.badIndex("behind the largest", () -> loom.enforced(1519, false));
    }

    private static void enforcedFollowsChanges() {
        PolicyLoom loom = Checks.loom(Checks.PUSH, 1, Checks.ACT, 4, Checks.END, 0);
        Checks.same("no rule", loom.enforce(), 4);
        loom.rule(0, 4, 0, 1, 0);
        Checks.same("a rule", loom.enforce(), 20);
        loom.code(Checks.ACT, 4);
        Checks.same("one act more", loom.enforce(), 38);
        loom.states(2);
        Checks.same("no rules again", loom.enforce(), 6);
        loom.clear();
        loom.code(Checks.END, 3);
        Checks.listing("another program", loom, Checks.END, 3);
    }

    private static void enforcedKeepsRun() {
        PolicyLoom loom = Checks.loom(Checks.PUSH, 1, Checks.ACT, 4, Checks.END, 0);
        loom.rule(0, 4, 0, 1, 0);
        loom.start(Checks.PLAIN, 0);
        loom.step(2);
        loom.enforce();
        loom.enforced(3, false);
        Checks.looks("beside a run", loom, Checks.GOES_ON, 2, 0, 0, 1);
        Checks.same("the run goes on as it was", loom.step(5), 1);
        Checks.same("to its end", loom.look(Checks.STATUS), Checks.OVER);
    }

    private static void refuses() {
        PolicyLoom loom = Checks.loom(Checks.PUSH, 1, Checks.ACT, 4, Checks.END, 0);
        int[] wrong = {-1, 4, 1584, Integer.MIN_VALUE, Integer.MAX_VALUE};
        for (int i : wrong) {
            Checks.badIndex("operation " + i, () -> loom.enforced(i, false));
            Checks.badIndex("k " + i, () -> loom.enforced(i, true));
        }
        PolicyLoom ill = new PolicyLoom();
        Checks.badState("enforce without a program", () -> ill.enforce());
        Checks.badState("enforced without a program", () -> ill.enforced(0, false));
        Checks.badState("enforced, state ahead of index", () -> ill.enforced(-1, true));
        ill.code(Checks.PUSH, 0);
        Checks.badState("enforce, ill", () -> ill.enforce());
        Checks.badState("enforced, ill", () -> ill.enforced(0, true));
    }
}
