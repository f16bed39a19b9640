/** Promises 8 and 9 in ordinary use: enforce and enforced. */
public final class EnforceTest {

    public static void main(String[] args) {
        testsOfTwoStates();
        wholeListingWithJumps();
        enforcedFollowsChanges();
        enforcedKeepsRun();
        Checks.finish();
    }

    private static void testsOfTwoStates() {
        PolicyLoom loom = Checks.loom(Checks.LOAD, 0, Checks.ACT, 5, Checks.END, 0);
        loom.states(4);
        loom.rule(3, 5, -7, 20, 1);
        loom.rule(1, 5, Integer.MIN_VALUE, Integer.MAX_VALUE, 3);
        Checks.listing("two states", loom,
                Checks.LOAD, 0,
                Checks.LOAD, 7, Checks.PUSH, 1, Checks.SUBTRACT, 0, Checks.IF, 17,
                Checks.DUPLICATE, 0, Checks.PUSH, Integer.MIN_VALUE, Checks.LESS, 0, Checks.IF, 33,
                Checks.DUPLICATE, 0, Checks.PUSH, Integer.MAX_VALUE, Checks.SWAP, 0, Checks.LESS, 0, Checks.IF, 33,
                Checks.PUSH, 3, Checks.STORE, 7, Checks.GO, 34,
                Checks.LOAD, 7, Checks.PUSH, 3, Checks.SUBTRACT, 0, Checks.IF, 33,
                Checks.DUPLICATE, 0, Checks.PUSH, -7, Checks.LESS, 0, Checks.IF, 33,
                Checks.DUPLICATE, 0, Checks.PUSH, 20, Checks.SWAP, 0, Checks.LESS, 0, Checks.IF, 33,
                Checks.PUSH, 1, Checks.STORE, 7, Checks.GO, 34,
                Checks.END, 0,
                Checks.ACT, 5,
                Checks.END, 0);
    }

    private static void wholeListingWithJumps() {
        PolicyLoom loom = Checks.loom(
                Checks.PUSH, 1,
                Checks.DUPLICATE, 9,
                Checks.IF, 4,
                Checks.GO, 5,
                Checks.ACT, 1,
                Checks.PUSH, 2,
                Checks.ACT, 2,
                Checks.GO, 6,
                Checks.GO, 7,
                Checks.IF, 4);
        Checks.no("jumps: heights differ", loom.well());
        loom.clear();
        Checks.write(loom,
                Checks.PUSH, 1,
                Checks.DUPLICATE, 9,
                Checks.IF, 4,
                Checks.GO, 4,
                Checks.ACT, 1,
                Checks.PUSH, 2,
                Checks.ACT, 2,
                Checks.GO, 0,
                Checks.GO, 6,
                Checks.IF, 7,
                Checks.GO, 9);
        loom.states(2);
        loom.rule(1, 1, 3, 4, 0);
        Checks.yes("jumps: well", loom.well());
        Checks.listing("jumps", loom,
                Checks.PUSH, 1,
                Checks.DUPLICATE, 9,
                Checks.IF, 4,
                Checks.GO, 4,
                Checks.LOAD, 7, Checks.PUSH, 1, Checks.SUBTRACT, 0, Checks.IF, 20,
                Checks.DUPLICATE, 0, Checks.PUSH, 3, Checks.LESS, 0, Checks.IF, 20,
                Checks.DUPLICATE, 0, Checks.PUSH, 4, Checks.SWAP, 0, Checks.LESS, 0, Checks.IF, 20,
                Checks.PUSH, 0, Checks.STORE, 7, Checks.GO, 21,
                Checks.END, 0,
                Checks.ACT, 1,
                Checks.PUSH, 2,
                Checks.END, 0,
                Checks.ACT, 2,
                Checks.GO, 0,
                Checks.GO, 23,
                Checks.IF, 25,
                Checks.GO, 27);
    }

    private static void enforcedFollowsChanges() {
        PolicyLoom loom = Checks.loom(Checks.PUSH, 1, Checks.ACT, 4, Checks.END, 0);
        Checks.same("no rule", loom.enforce(), 4);
        loom.rule(0, 4, 0, 1, 0);
        Checks.same("a rule", loom.enforce(), 20);
        loom.code(Checks.ACT, 4);
        Checks.same("one act more", loom.enforce(), 38);
        loom.states(2);
        Checks.same("no rules again", loom.enforce(), 6);
        loom.clear();
        loom.code(Checks.END, 3);
        Checks.listing("another program", loom, Checks.END, 3);
    }

    private static void enforcedKeepsRun() {
        PolicyLoom loom = Checks.loom(Checks.PUSH, 1, Checks.ACT, 4, Checks.END, 0);
        loom.rule(0, 4, 0, 1, 0);
        loom.start(Checks.PLAIN, 0);
        loom.step(2);
        loom.enforce();
        loom.enforced(3, false);
        Checks.looks("beside a run", loom, Checks.GOES_ON, 2, 0, 0, 1);
        Checks.same("the run goes on as it was", loom.step(5), 1);
        Checks.same("to its end", loom.look(Checks.STATUS), Checks.OVER);
    }
}
