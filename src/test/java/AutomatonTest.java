/** Promises 4 and 5: states and rule. */
public final class AutomatonTest {

    public static void main(String[] args) {
        statesTakesOneToFour();
        statesDropsRulesAndRun();
        statesRefuses();
        ruleStandsForItsStateAndAct();
        ruleTakesThePlaceOfAnother();
        ruleEndsRun();
        ruleRefuses();
        Checks.finish();
    }

    private static PolicyLoom oneAct() {
        return Checks.loom(Checks.LOAD, 0, Checks.ACT, 3, Checks.END, 0);
    }

    private static void statesTakesOneToFour() {
        for (int s = 1; s <= 4; s++) {
            PolicyLoom loom = oneAct();
            int states = s;
            loom.states(s);
            for (int state = 0; state < s; state++) {
                loom.rule(state, 3, 0, 0, s - 1 - state);
            }
            Checks.same("tests with states " + s, loom.enforce(), 4 + 16 * s);
            Checks.badArgument("state " + s, () -> Checks.rule(loom, states, 3, 0, 0, 0));
            Checks.badArgument("then " + s, () -> Checks.rule(loom, 0, 3, 0, 0, states));
        }
    }

    private static void statesDropsRulesAndRun() {
        PolicyLoom loom = oneAct();
        loom.states(4);
        for (int state = 0; state < 4; state++) {
            loom.rule(state, 3, 0, 9, 0);
        }
        loom.start(Checks.WATCHED, 5);
        loom.step(2);
        loom.states(4);
        Checks.noRun("states", loom);
        Checks.same("states: no rules", loom.enforce(), 4);
        loom.start(Checks.WATCHED, 5);
        loom.step(2);
        Checks.same("states: nothing allowed", loom.look(Checks.STATUS), Checks.STOPPED);
        loom.rule(3, 3, 0, 9, 0);
        loom.states(1);
        loom.states(4);
        Checks.same("states: fewer and more again", loom.enforce(), 4);
        Checks.yes("states keeps the program", loom.well());
    }

    private static void statesRefuses() {
        PolicyLoom loom = oneAct();
        loom.states(3);
        loom.rule(2, 3, 0, 9, 0);
        loom.start(Checks.PLAIN, 5);
        int[] wrong = {0, 5, -1, Integer.MIN_VALUE, Integer.MAX_VALUE};
        for (int s : wrong) {
            Checks.badArgument("states " + s, () -> Checks.states(loom, s));
        }
        Checks.same("states that throws keeps the run", loom.look(Checks.STATUS), Checks.GOES_ON);
        Checks.same("states that throws keeps the rules", loom.enforce(), 20);
        Checks.rule(loom, 2, 3, 0, 9, 2);
    }

    private static void ruleStandsForItsStateAndAct() {
        PolicyLoom loom = oneAct();
        loom.states(4);
        loom.rule(0, 2, 5, 5, 0);
        loom.rule(0, 4, 5, 5, 0);
        loom.rule(1, 3, 5, 5, 0);
        Checks.same("one rule for act 3", loom.enforce(), 20);
        loom.start(Checks.WATCHED, 5);
        loom.step(9);
        Checks.same("none of them allows act 3 in state 0", loom.look(Checks.STATUS), Checks.STOPPED);
        loom.rule(0, 3, 5, 5, 2);
        Checks.same("two rules for act 3", loom.enforce(), 36);
        Checks.same("5 is allowed", statusWatched(loom, 5), Checks.OVER);
        Checks.same("and leads to", loom.look(Checks.STATE), 2);
        Checks.same("4 is too low", statusWatched(loom, 4), Checks.STOPPED);
        Checks.same("6 is too high", statusWatched(loom, 6), Checks.STOPPED);
        for (int act = 0; act < 8; act++) {
            Checks.rule(loom, 3, act, 0, 0, 3);
        }
        Checks.same("three rules for act 3", loom.enforce(), 52);
    }

    private static int statusWatched(PolicyLoom loom, int x) {
        loom.start(Checks.WATCHED, x);
        loom.step(9);
        return loom.look(Checks.STATUS);
    }

    private static void ruleTakesThePlaceOfAnother() {
        PolicyLoom loom = oneAct();
        loom.states(2);
        loom.rule(0, 3, 0, 9, 1);
        Checks.same("the first rule", loom.enforced(6, true), 0);
        loom.rule(0, 3, 4, 7, 0);
        Checks.same("still one rule", loom.enforce(), 20);
        Checks.same("the second rule's lowest", loom.enforced(6, true), 4);
        Checks.same("the second rule's highest", loom.enforced(10, true), 7);
        Checks.same("the second rule's then", loom.enforced(14, true), 0);
        Checks.same("below the second rule", statusWatched(loom, 3), Checks.STOPPED);
        Checks.same("in the second rule", statusWatched(loom, 7), Checks.OVER);
        Checks.same("then of the second rule", loom.look(Checks.STATE), 0);
    }

    private static void ruleEndsRun() {
        PolicyLoom loom = oneAct();
        loom.start(Checks.PLAIN, 5);
        loom.step(2);
        loom.rule(0, 3, 0, 9, 0);
        Checks.noRun("rule", loom);
        Checks.yes("rule keeps the program", loom.well());
    }

    private static void ruleRefuses() {
        PolicyLoom loom = oneAct();
        loom.states(2);
        loom.rule(1, 3, 1, 1, 1);
        loom.start(Checks.PLAIN, 5);
        loom.step(1);
        int[] noStates = {2, 4, -1, Integer.MIN_VALUE, Integer.MAX_VALUE};
        for (int state : noStates) {
            Checks.badArgument("state " + state, () -> Checks.rule(loom, state, 3, 0, 0, 0));
            Checks.badArgument("then " + state, () -> Checks.rule(loom, 0, 3, 0, 0, state));
        }
        int[] noActs = {8, -1, Integer.MIN_VALUE, Integer.MAX_VALUE};
        for (int act : noActs) {
            Checks.badArgument("act " + act, () -> Checks.rule(loom, 0, act, 0, 0, 0));
        }
        Checks.badArgument("highest below", () -> Checks.rule(loom, 0, 3, 1, 0, 0));
        Checks.badArgument("highest far below",
                () -> Checks.rule(loom, 0, 3, Integer.MAX_VALUE, Integer.MIN_VALUE, 0));
        Checks.looks("rule that throws keeps the run", loom, Checks.GOES_ON, 1, 1, 0, 0);
        Checks.same("rule that throws sets nothing", loom.enforce(), 20);
        loom.rule(0, 3, Integer.MIN_VALUE, Integer.MAX_VALUE, 1);
        loom.rule(0, 0, 5, 5, 1);
        Checks.same("the widest rule", statusWatched(loom, Integer.MIN_VALUE), Checks.OVER);
        Checks.same("the widest rule", statusWatched(loom, Integer.MAX_VALUE), Checks.OVER);
    }
}
