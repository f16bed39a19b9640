/** Promises 4 and 5 in ordinary use: states and rule. */
public final class AutomatonTest {

    public static void main(String[] args) {
        statesDropsRulesAndRun();
        ruleStandsForItsStateAndAct();
        Checks.finish();
    }

    private static PolicyLoom oneAct() {
        return Checks.loom(Checks.LOAD, 0, Checks.ACT, 3, Checks.END, 0);
    }

    private static void statesDropsRulesAndRun() {
        PolicyLoom loom = oneAct();
        loom.states(4);
        for (int state = 0; state < 4; state++) {
            loom.rule(state, 3, 0, 9, 0);
        }
        loom.start(Checks.WATCHED, 5);
        loom.step(2);
        loom.states(4);
        Checks.noRun("states", loom);
        Checks.same("states: no rules", loom.enforce(), 4);
        loom.start(Checks.WATCHED, 5);
        loom.step(2);
        Checks.same("states: nothing allowed", loom.look(Checks.STATUS), Checks.STOPPED);
        loom.rule(3, 3, 0, 9, 0);
        loom.states(1);
        loom.states(4);
        Checks.same("states: fewer and more again", loom.enforce(), 4);
        Checks.yes("states keeps the program", loom.well());
    }

    private static void ruleStandsForItsStateAndAct() {
        PolicyLoom loom = oneAct();
        loom.states(4);
        loom.rule(0, 2, 5, 5, 0);
        loom.rule(0, 4, 5, 5, 0);
        loom.rule(1, 3, 5, 5, 0);
        Checks.same("one rule for act 3", loom.enforce(), 20);
        loom.start(Checks.WATCHED, 5);
        loom.step(9);
        Checks.same("none of them allows act 3 in state 0", loom.look(Checks.STATUS), Checks.STOPPED);
        loom.rule(0, 3, 5, 5, 2);
        Checks.same("two rules for act 3", loom.enforce(), 36);
        Checks.same("5 is allowed", statusWatched(loom, 5), Checks.OVER);
        Checks.same("and leads to", loom.look(Checks.STATE), 2);
        Checks.same("4 is too low", statusWatched(loom, 4), Checks.STOPPED);
        Checks.same("6 is too high", statusWatched(loom, 6), Checks.STOPPED);
        for (int act = 0; act < 8; act++) {
            Checks.rule(loom, 3, act, 0, 0, 3);
        }
        Checks.same("three rules for act 3", loom.enforce(), 52);
    }

    private static int statusWatched(PolicyLoom loom, int x) {
        loom.start(Checks.WATCHED, x);
        loom.step(9);
        return loom.look(Checks.STATUS);
    }
}
