/**
 * Each sentence on automata and enforced programs that names a boundary, with both its sides:
 * promises 4, 5, 8 and 9, and what "Terms" says of an automaton and of the enforced program.
 */
public final class PolicyBoundsTest {
    private static final int LEAST = Integer.MIN_VALUE;
    private static final int MOST = Integer.MAX_VALUE;
    private static final String ONE_ACT = "LOAD 0; ACT 3; END";

    public static void main(String[] args) {
        statesAre1To4();
        statesLeavesNoRules();
        statesOfRules();
        thensOfRules();
        actsOfRules();
        highestIsNotBelowLowest();
        inPlaceOfAnotherOne();
        oneRuleForEachStateAndAct();
        beginsIn0();
        lowestAndHighestAreAllowed();
        lowestAndHighestAtTheEnds();
        withoutARule();
        noActs();
        aStopAlone();
        fromNoTestToFour();
        fromTheLeastStateOn();
        aTestIs16Instructions();
        theLastTestGoesOnAtTheStop();
        waysToAnAct();
        waysBesideAnAct();
        actsThatAreNotReached();
        enforcedOfNoInstruction();
        theLargestEnforcedProgram();
        theHighestStackOfATest();
        Checks.finish();
    }

    /** Promise 4: "IllegalArgumentException: S is not 1 .. 4". */
    private static void statesAre1To4() {
        PolicyLoom loom = Checks.loom(ONE_ACT);
        Checks.badArguments("states", s -> Checks.states(loom, s), LEAST, -1, 0, 5, MOST);
        for (int s = 1; s <= 4; s++) {
            Checks.same("states " + s, Checks.states(loom, s), 0);
            Checks.same("the last of states " + s, Checks.rule(loom, s - 1, 3, 0, 0, s - 1), 0);
        }
        Checks.badArguments("states", s -> Checks.states(loom, s), LEAST, -1, 0, 5, MOST);
        Checks.same("refused ones keep the rule", loom.enforce(), 20);
    }

    /** Promise 4: "The automaton has S states and no rules", though it had as many before. */
    private static void statesLeavesNoRules() {
        PolicyLoom loom = Checks.loom(ONE_ACT);
        for (int s = 1; s <= 4; s++) {
            loom.states(4);
            for (int state = 0; state < 4; state++) {
                loom.rule(state, 3, LEAST, MOST, state);
            }
            Checks.same("four rules", loom.enforce(), 68);
            loom.states(s);
            Checks.same("no rules of states " + s, loom.enforce(), 4);
            loom.states(4);
            Checks.same("no rules of states 4 again", loom.enforce(), 4);
        }
    }

    /** Promise 5: "IllegalArgumentException: no state (state ..)". */
    private static void statesOfRules() {
        for (int s = 1; s <= 4; s++) {
            PolicyLoom loom = Checks.loom(ONE_ACT);
            loom.states(s);
            Checks.badArguments("of " + s + " states: from", state -> Checks.rule(loom, state, 3, 0, 0, 0),
                    LEAST, -1, s, s + 1, MOST);
            Checks.same("of " + s + " states: no rule yet", loom.enforce(), 4);
            for (int state = 0; state < s; state++) {
                Checks.same("of " + s + " states: from " + state, Checks.rule(loom, state, 3, 0, 0, 0), 0);
            }
            Checks.same("of " + s + " states: all rules", loom.enforce(), 4 + 16 * s);
        }
    }

    /** Promise 5: "IllegalArgumentException: no state (.. then)". */
    private static void thensOfRules() {
        for (int s = 1; s <= 4; s++) {
            PolicyLoom loom = Checks.loom(ONE_ACT);
            loom.states(s);
            Checks.badArguments("of " + s + " states: then", then -> Checks.rule(loom, 0, 3, 0, 0, then),
                    LEAST, -1, s, s + 1, MOST);
            Checks.same("of " + s + " states: no rule yet", loom.enforce(), 4);
            for (int then = 0; then < s; then++) {
                Checks.rule(loom, 0, 3, 0, 0, then);
                Checks.same("of " + s + " states: then " + then, loom.enforced(14, true), then);
            }
        }
    }

    /** Promise 5: "IllegalArgumentException: .. no act"; Terms: "for each act 0 .. 7". */
    private static void actsOfRules() {
        PolicyLoom loom = Checks.loom("PUSH 1; ACT 0; PUSH 1; ACT 7; END");
        Checks.badArguments("act", act -> Checks.rule(loom, 0, act, 0, 0, 0), LEAST, -1, 8, MOST);
        Checks.same("no rule yet", loom.enforce(), 7);
        loom.rule(0, 0, 0, 0, 0);
        Checks.same("a rule for act 0", loom.enforce(), 23);
        for (int act = 1; act < 7; act++) {
            loom.rule(0, act, 0, 0, 0);
        }
        Checks.same("rules for acts 1 to 6", loom.enforce(), 23);
        loom.rule(0, 7, 0, 0, 0);
        Checks.same("a rule for act 7", loom.enforce(), 39);
    }

    /** Promise 5: "IllegalArgumentException: .. or highest is below lowest". */
    private static void highestIsNotBelowLowest() {
        int[][] fitting = {
            {0, 0}, {0, 1}, {-1, 0}, {LEAST, LEAST}, {MOST, MOST}, {LEAST, MOST}, {-2, MOST}, {LEAST, 2}
        };
        int[][] below = {
            {0, -1}, {1, 0}, {7, 6}, {MOST, LEAST}, {LEAST + 1, LEAST}, {MOST, MOST - 1}, {2, LEAST}, {MOST, -2}
        };
        PolicyLoom loom = Checks.loom(ONE_ACT);
        for (int[] row : below) {
            Checks.badArgument("rule " + row[0] + " .. " + row[1], () -> Checks.rule(loom, 0, 3, row[0], row[1], 0));
        }
        Checks.same("no rule yet", loom.enforce(), 4);
        for (int[] row : fitting) {
            Checks.rule(loom, 0, 3, row[0], row[1], 0);
            Checks.same("lowest", loom.enforced(6, true), row[0]);
            Checks.same("highest", loom.enforced(10, true), row[1]);
        }
    }

    /** Promise 5: "(in place of another one)": nothing of the other one stays. */
    private static void inPlaceOfAnotherOne() {
        PolicyLoom loom = Checks.loom(ONE_ACT);
        loom.states(2);
        loom.rule(0, 3, 0, 9, 1);
        Checks.same("the first one", doneWith(loom, 2), 1);
        loom.rule(0, 3, 4, 7, 0);
        Checks.same("one rule", loom.enforce(), 20);
        Checks.same("below the second one", doneWith(loom, 3), 0);
        Checks.same("above the second one", doneWith(loom, 8), 0);
        Checks.same("the second one", doneWith(loom, 4), 1);
        Checks.same("its state then", loom.look(Checks.STATE), 0);
    }

    /** Terms: "from each state for each act 0 .. 7 a RULE": all 32 of them beside one another. */
    private static void oneRuleForEachStateAndAct() {
        PolicyLoom loom = new PolicyLoom();
        for (int act = 0; act < 8; act++) {
            Checks.write(loom, Checks.LOAD, 0, Checks.ACT, act);
        }
        loom.code(Checks.END, 0);
        loom.states(4);
        for (int state = 0; state < 4; state++) {
            for (int act = 0; act < 8; act++) {
                loom.rule(state, act, 10 * state + act, 100 + 10 * state + act, (state + act) % 4);
            }
        }
        Checks.same("with all rules", loom.enforce(), 17 + 8 * 65);
        for (int act = 0; act < 8; act++) {
            for (int state = 0; state < 4; state++) {
                int test = 1 + 67 * act + 16 * state;
                Checks.same("state", loom.enforced(test + 1, true), state);
                Checks.same("lowest", loom.enforced(test + 5, true), 10 * state + act);
                Checks.same("highest", loom.enforced(test + 9, true), 100 + 10 * state + act);
                Checks.same("then", loom.enforced(test + 13, true), (state + act) % 4);
            }
        }
    }

    /** Terms: "begins in 0". */
    private static void beginsIn0() {
        for (int state = 0; state < 4; state++) {
            PolicyLoom loom = Checks.loom(ONE_ACT);
            loom.states(4);
            loom.rule(state, 3, 0, 9, 3);
            Checks.same("a rule from " + state + " alone", doneWith(loom, 5), state == 0 ? 1 : 0);
        }
    }

    /** Terms: "the LOWEST and the HIGHEST number with which the act is allowed". */
    private static void lowestAndHighestAreAllowed() {
        PolicyLoom loom = Checks.loom(ONE_ACT);
        loom.rule(0, 3, -4, 6, 0);
        int[][] rows = {{-5, 0}, {-4, 1}, {-3, 1}, {5, 1}, {6, 1}, {7, 0}, {LEAST, 0}, {MOST, 0}};
        for (int[] row : rows) {
            Checks.same("-4 .. 6: done with " + row[0], doneWith(loom, row[0]), row[1]);
        }
        loom.rule(0, 3, 2, 2, 0);
        for (int x = 1; x <= 3; x++) {
            Checks.same("2 .. 2: done with " + x, doneWith(loom, x), x == 2 ? 1 : 0);
        }
    }

    /** The same at the ends of the ints, where a difference would wrap around. */
    private static void lowestAndHighestAtTheEnds() {
        int[][] rows = {
            {LEAST, LEAST, LEAST, 1}, {LEAST, LEAST, LEAST + 1, 0}, {LEAST, LEAST, MOST, 0},
            {MOST, MOST, MOST, 1}, {MOST, MOST, MOST - 1, 0}, {MOST, MOST, LEAST, 0},
            {LEAST, MOST, LEAST, 1}, {LEAST, MOST, 0, 1}, {LEAST, MOST, MOST, 1},
            {1, MOST, LEAST, 0}, {1, MOST, 0, 0}, {1, MOST, MOST, 1},
            {LEAST, -2, MOST, 0}, {LEAST, -2, -1, 0}, {LEAST, -2, LEAST, 1}
        };
        for (int[] row : rows) {
            PolicyLoom loom = Checks.loom(ONE_ACT);
            loom.rule(0, 3, row[0], row[1], 0);
            Checks.same(row[0] + " .. " + row[1] + ": done with " + row[2], doneWith(loom, row[2]), row[3]);
        }
    }

    /** Terms: "Without a rule an act is not allowed", whatever is allowed beside it. */
    private static void withoutARule() {
        PolicyLoom loom = Checks.loom("LOAD 0; ACT 3; LOAD 0; ACT 4; END");
        loom.states(2);
        loom.rule(0, 2, LEAST, MOST, 0);
        loom.rule(0, 4, LEAST, MOST, 0);
        loom.rule(1, 3, LEAST, MOST, 0);
        Checks.same("no rule for act 3 from 0", doneWith(loom, 0), 0);
        loom.rule(0, 3, LEAST, MOST, 1);
        Checks.same("no rule for act 4 from 1", doneWith(loom, 0), 1);
        loom.rule(1, 4, LEAST, MOST, 1);
        Checks.same("rules for both", doneWith(loom, 0), 2);
    }

    /** Promise 8: a program without an ACT is its own enforced program. */
    private static void noActs() {
        PolicyLoom loom = Checks.loom("GO 1; PUSH -3; IF 0; END 8");
        loom.rule(0, 0, 0, 0, 0);
        Checks.listing("no acts", loom, Checks.code("GO 1; PUSH -3; IF 0; END 8"));
        Checks.listing("one instruction", Checks.loom("END"), Checks.code("END"));
    }

    /** Terms: "and behind these an END, its STOP", though there is no test. */
    private static void aStopAlone() {
        PolicyLoom loom = Checks.loom("PUSH 1; ACT 3; PUSH 1; ACT 0; END");
        Checks.listing("no rules", loom, Checks.code("PUSH 1; END; ACT 3; PUSH 1; END; ACT 0; END"));
        for (int how = Checks.PLAIN; how <= Checks.WATCHED; how++) {
            Checks.run(loom, how, 0);
            Checks.same("run " + how, loom.look(Checks.DONE), how == Checks.PLAIN ? 2 : 0);
        }
    }

    /** Terms: "for each state s that has a rule for act k .. a TEST". */
    private static void fromNoTestToFour() {
        for (int rules = 0; rules < 16; rules++) {
            PolicyLoom loom = Checks.loom(ONE_ACT);
            loom.states(4);
            int tests = 0;
            for (int state = 0; state < 4; state++) {
                if ((rules >> state & 1) == 1) {
                    loom.rule(state, 3, 0, 0, 0);
                    tests++;
                } else {
                    loom.rule(state, 2, 0, 0, 0);
                }
            }
            Checks.same("enforce", loom.enforce(), 4 + 16 * tests);
            Checks.same("the STOP", loom.enforced(1 + 16 * tests, false), Checks.END);
            Checks.same("the ACT", loom.enforced(2 + 16 * tests, false), Checks.ACT);
            checkStates(loom, rules);
        }
    }

    private static void checkStates(PolicyLoom loom, int rules) {
        int test = 1;
        for (int state = 0; state < 4; state++) {
            if ((rules >> state & 1) == 1) {
                Checks.same("LOAD of a test", loom.enforced(test, false), Checks.LOAD);
                Checks.same("state of a test", loom.enforced(test + 1, true), state);
                Checks.same("IF of a test", loom.enforced(test + 3, true), test + 16);
                test += 16;
            }
        }
    }

    /** Terms: "from the least one on", in whatever order the rules were given. */
    private static void fromTheLeastStateOn() {
        PolicyLoom loom = Checks.loom(ONE_ACT);
        loom.states(4);
        for (int state : new int[] {3, 1, 0, 2}) {
            loom.rule(state, 3, state, state, 0);
        }
        for (int state = 0; state < 4; state++) {
            Checks.same("state of test " + state, loom.enforced(2 + 16 * state, true), state);
            Checks.same("lowest of test " + state, loom.enforced(6 + 16 * state, true), state);
        }
    }

    /** Terms: "A TEST is 16 instructions: ..". */
    private static void aTestIs16Instructions() {
        PolicyLoom loom = Checks.loom(ONE_ACT);
        loom.states(3);
        loom.rule(2, 3, LEAST, MOST, 1);
        Checks.listing("one test", loom, Checks.code("LOAD 0; "
                + "LOAD 7; PUSH 2; SUBTRACT; IF 17; "
                + "DUPLICATE; PUSH -2147483648; LESS; IF 17; "
                + "DUPLICATE; PUSH 2147483647; SWAP; LESS; IF 17; "
                + "PUSH 1; STORE 7; GO 18; "
                + "END; ACT 3; END"));
    }

    /** Terms: "IF (on at the next test, or the STOP)". */
    private static void theLastTestGoesOnAtTheStop() {
        PolicyLoom loom = Checks.loom(ONE_ACT);
        loom.states(2);
        loom.rule(0, 3, 5, 6, 1);
        loom.rule(1, 3, -8, -7, 0);
        Checks.listing("two tests", loom, Checks.code("LOAD 0; "
                + "LOAD 7; PUSH 0; SUBTRACT; IF 17; DUPLICATE; PUSH 5; LESS; IF 33; "
                + "DUPLICATE; PUSH 6; SWAP; LESS; IF 33; PUSH 1; STORE 7; GO 34; "
                + "LOAD 7; PUSH 1; SUBTRACT; IF 33; DUPLICATE; PUSH -8; LESS; IF 33; "
                + "DUPLICATE; PUSH -7; SWAP; LESS; IF 33; PUSH 0; STORE 7; GO 34; "
                + "END; ACT 3; END"));
    }

    /** Terms: "GO and IF .. go on at .. (a test or STOP ahead of it, if there is one)". */
    private static void waysToAnAct() {
        PolicyLoom loom = Checks.loom("PUSH 1; GO 2; ACT 3; PUSH 1; PUSH 1; IF 6; ACT 4; GO 0");
        Checks.same("no rules: GO to a STOP", loom.enforced(1, true), 2);
        Checks.same("no rules: IF to a STOP", loom.enforced(6, true), 7);
        loom.rule(0, 4, 0, 9, 0);
        Checks.same("a rule for the second: GO to a STOP", loom.enforced(1, true), 2);
        Checks.same("a rule for the second: IF to a test", loom.enforced(6, true), 7);
        Checks.same("which it is", loom.enforced(7, true), 7);
        loom.rule(0, 3, 0, 9, 0);
        Checks.same("rules for both: GO to a test", loom.enforced(1, true), 2);
        Checks.same("rules for both: IF to a test", loom.enforced(22, true), 23);
        Checks.same("rules for both: GO to the first", loom.enforced(41, true), 0);
        Checks.run(loom, Checks.ENFORCED, 0);
        Checks.same("acts by GO and IF", loom.look(Checks.STATUS), Checks.FULL);
        loom.rule(0, 4, 2, 9, 0);
        Checks.run(loom, Checks.ENFORCED, 0);
        Checks.looks("no way around the test", loom, Checks.OVER, 39, 1, 0, 1);
    }

    /** The instruction ahead of an ACT and the one behind it stand for themselves alone. */
    private static void waysBesideAnAct() {
        PolicyLoom loom = Checks.loom("GO 1; PUSH 1; ACT 3; GO 4; GO 5; PUSH 1; IF 1; END");
        Checks.listing("no rules", loom,
                Checks.code("GO 1; PUSH 1; END; ACT 3; GO 5; GO 6; PUSH 1; IF 1; END"));
        loom.rule(0, 3, 0, 9, 0);
        Checks.same("GO to the PUSH ahead", loom.enforced(0, true), 1);
        Checks.same("GO to the one behind", loom.enforced(20, true), 21);
        Checks.same("GO to the next one behind", loom.enforced(21, true), 22);
        Checks.same("IF back to the PUSH ahead", loom.enforced(23, true), 1);
    }

    /** Terms: "ahead of each ACT k": also of one that can't be reached. */
    private static void actsThatAreNotReached() {
        PolicyLoom loom = Checks.loom("END; ACT 3; GO 1");
        Checks.listing("not reached", loom, Checks.code("END; END; ACT 3; GO 1"));
        loom.rule(0, 3, 0, 9, 0);
        Checks.same("not reached, with a rule", loom.enforce(), 20);
        Checks.same("GO to its test", loom.enforced(19, true), 1);
    }

    /** Promise 9: "IndexOutOfBoundsException: no instruction", of the enforced program, not of the program. */
    private static void enforcedOfNoInstruction() {
        PolicyLoom loom = Checks.loom(ONE_ACT);
        Checks.same("the first", loom.enforced(0, false), Checks.LOAD);
        Checks.same("the last", loom.enforced(3, false), Checks.END);
        for (boolean second : new boolean[] {false, true}) {
            Checks.badIndexes("enforced", i -> loom.enforced(i, second), LEAST, -1, 4, 5, MOST);
        }
        loom.rule(0, 3, 0, 9, 0);
        Checks.same("the last with a rule", loom.enforced(19, false), Checks.END);
        Checks.badIndexes("with a rule: enforced", i -> loom.enforced(i, false), -1, 20, 24);
        loom.states(1);
        Checks.badIndexes("without it again: enforced", i -> loom.enforced(i, false), 4, 19);
    }

    /** Promise 8: 24 instructions, of which all but the first one are ACTs with four tests each. */
    private static void theLargestEnforcedProgram() {
        PolicyLoom loom = Checks.loom("GO 0" + "; ACT 7".repeat(23));
        Checks.same("without rules", loom.enforce(), 1 + 23 * 2);
        loom.states(4);
        for (int state = 0; state < 4; state++) {
            loom.rule(state, 7, state, 100 + state, 3 - state);
        }
        Checks.same("the largest", loom.enforce(), 1519);
        for (int act = 66; act <= 1518; act += 66) {
            Checks.same("its ACT " + act, loom.enforced(act, false), Checks.ACT);
            Checks.same("its STOP " + act, loom.enforced(act - 1, false), Checks.END);
            for (int test = act - 65; test < act - 1; test += 16) {
                Checks.same("IF of " + test, loom.enforced(test + 3, true), test + 16);
                Checks.same("GO of " + test, loom.enforced(test + 15, true), act);
            }
        }
        Checks.badIndexes("of the largest: enforced", i -> loom.enforced(i, true), -1, 1519, 1520);
    }

    /** Terms: a test needs two more on the stack than the 12 that an instruction may leave. */
    private static void theHighestStackOfATest() {
        PolicyLoom loom = Checks.loom("PUSH 8; ".repeat(12) + "ACT 3; ACT 3; END");
        loom.rule(0, 3, 8, 8, 0);
        loom.start(Checks.ENFORCED, 0);
        loom.step(13);
        Checks.same("LOAD 7", loom.look(Checks.STACKED), 13);
        loom.step(1);
        Checks.same("PUSH s", loom.look(Checks.STACKED), 14);
        loom.step(2000);
        Checks.looks("two acts", loom, Checks.OVER, 48, 10, 0, 2);
    }

    /** How many acts are done with x in cell 0: the same by both runs that keep to the policy. */
    private static int doneWith(PolicyLoom loom, int x) {
        Checks.run(loom, Checks.ENFORCED, x);
        int enforced = loom.look(Checks.DONE);
        Checks.same("enforced with " + x + ": status", loom.look(Checks.STATUS), Checks.OVER);
        int state = loom.look(Checks.STATE);
        Checks.run(loom, Checks.WATCHED, x);
        Checks.same("with " + x + ": done, watched and enforced", loom.look(Checks.DONE), enforced);
        Checks.same("with " + x + ": state, watched and enforced", loom.look(Checks.STATE), state);
        return loom.look(Checks.DONE);
    }
}
