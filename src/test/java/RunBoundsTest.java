/**
 * Each sentence on runs that names a boundary, with both its sides: promises 10 to 14, what ends a
 * run, and what "Terms" says of a run and of the instructions' work.
 */
public final class RunBoundsTest {
    private static final int LEAST = Integer.MIN_VALUE;
    private static final int MOST = Integer.MAX_VALUE;

    // Of Situation.COUNT: what stands at these numbers, there and in the enforced program.
    private static final int ACT_PLACE = 6;
    private static final int END_PLACE = 9;
    private static final int STOP_ENFORCED = 38;
    private static final int ACT_ENFORCED = 39;
    private static final int END_ENFORCED = 42;

    public static void main(String[] args) {
        thereIsNoRunThen();
        readingKeepsTheRun();
        howIs0To2();
        inPlaceOfAnotherRun();
        allAsAtFirst();
        cell0IsX();
        numbersWrapAround();
        lessAtItsBoundary();
        ifAtItsBoundary();
        cellsOfTheProgram();
        stepsAre0To2000();
        upToNSteps();
        theLastStepIsIncluded();
        behindTheLastStep();
        overByEnd();
        sixtyActsAreNotFull();
        fullByThe61st();
        fullByTheEnforced61st();
        theFullActIsNotDone();
        stoppedByAnActThatIsNotAllowed();
        stoppedGoesAheadOfFull();
        theEnforcedStopGoesAheadOfFull();
        onlyWatchedIsStopped();
        whatIs0To4();
        whereItIs();
        howManyAreOnTheStack();
        theStateOfEachRun();
        actsOfTheTrace();
        actsOfAFullTrace();
        actsOfAnEarlierRun();
        cellsAre0To7();
        Checks.finish();
    }

    /** Promises 2 to 5: "there is no run then", of whatever kind it was and however it ended. */
    private static void thereIsNoRunThen() {
        for (Situation situation : Situation.values()) {
            PolicyLoom coded = situation.make();
            if (situation.instructions() < 24) {
                coded.code(Checks.END, 0);
                Checks.noRun(situation + ": code", coded);
            }
            PolicyLoom cleared = situation.make();
            cleared.clear();
            Checks.noRun(situation + ": clear", cleared);
            PolicyLoom stated = situation.make();
            stated.states(2);
            Checks.noRun(situation + ": states", stated);
            PolicyLoom ruled = situation.make();
            ruled.rule(0, 0, 0, 0, 0);
            Checks.noRun(situation + ": rule", ruled);
        }
    }

    /** Promises 6 to 9 and 12 to 14 tell of no change. */
    private static void readingKeepsTheRun() {
        for (Situation situation : Situation.values()) {
            PolicyLoom loom = situation.make();
            PolicyLoom twin = situation.make();
            Situation.picture(loom);
            boolean same = Situation.pictureOfRun(loom).equals(Situation.pictureOfRun(twin));
            Checks.yes(situation + ": as it was", same);
            if (situation.runs()) {
                Checks.same(situation + ": goes on", loom.step(7), twin.step(7));
                Checks.same(situation + ": where", loom.look(Checks.PLACE), twin.look(Checks.PLACE));
            }
        }
    }

    /** Promise 10: "how 0 plain, 1 enforced, 2 watched", "IllegalArgumentException: another how". */
    private static void howIs0To2() {
        PolicyLoom loom = Checks.loom("LOAD 0; ACT 3; END");
        Checks.badArguments("how", how -> Checks.start(loom, how, 5), LEAST, -1, 3, MOST);
        Checks.same("no run by them", loom.look(Checks.STATUS), Checks.NO_RUN);
        int[] due = {Checks.OVER, Checks.OVER, Checks.STOPPED};
        int[] steps = {3, 2, 2};
        for (int how = 0; how <= 2; how++) {
            Checks.same("start " + how, Checks.start(loom, how, 5), 0);
            Checks.same("start " + how + ": steps", loom.step(2000), steps[how]);
            Checks.same("start " + how + ": status", loom.look(Checks.STATUS), due[how]);
        }
        Checks.badArguments("how", how -> Checks.start(loom, how, 5), LEAST, -1, 3, MOST);
        Checks.same("the run stays", loom.look(Checks.STATUS), Checks.STOPPED);
    }

    /** Promise 10: "Begins a run, in place of another one", of whatever kind it was and however it ended. */
    private static void inPlaceOfAnotherRun() {
        for (Situation situation : Situation.values()) {
            for (int how = 0; how <= 2 && situation.well; how++) {
                PolicyLoom loom = situation.make();
                PolicyLoom twin = Situation.counting(situation.text);
                Checks.start(loom, how, 64);
                Checks.start(twin, how, 64);
                String what = situation + ", then " + how;
                Checks.looks(what, loom, Checks.GOES_ON, 0, 0, 0, 0);
                Checks.yes(what, Situation.pictureOfRun(loom).equals(Situation.pictureOfRun(twin)));
                Checks.same(what + ": steps", loom.step(2000), twin.step(2000));
                Checks.yes(what + ": run", Situation.pictureOfRun(loom).equals(Situation.pictureOfRun(twin)));
            }
        }
    }

    /** Terms: "cells, stack, and the state are as at first"; "CELLS 0 .. 7, all 0 at first". */
    private static void allAsAtFirst() {
        PolicyLoom loom = Checks.loom("PUSH 9; PUSH 9; STORE 1; PUSH 9; STORE 6; PUSH 9; STORE 0; LOAD 0; ACT 3; END");
        loom.states(2);
        loom.rule(0, 3, 9, 9, 1);
        for (int how = 0; how <= 2; how++) {
            for (int times = 0; times < 2; times++) {
                loom.start(how, 4);
                Checks.looks("at first", loom, Checks.GOES_ON, 0, 0, 0, 0);
                Checks.same("cell 0 at first", loom.cell(0), 4);
                for (int k = 1; k < 8; k++) {
                    Checks.same("cell " + k + " at first", loom.cell(k), 0);
                }
                loom.step(2000);
                Checks.same("cell 0", loom.cell(0), 9);
                Checks.same("cell 1", loom.cell(1), 9);
                Checks.same("cell 6", loom.cell(6), 9);
                Checks.same("acts", loom.look(Checks.DONE), 1);
            }
        }
    }

    /** Promise 10: "cell 0 is x", whatever int it is. */
    private static void cell0IsX() {
        PolicyLoom loom = Checks.loom("LOAD 0; ACT 3; END");
        for (int x : new int[] {LEAST, LEAST + 1, -1, 0, 1, MOST - 1, MOST}) {
            loom.start(Checks.PLAIN, x);
            Checks.same("cell 0", loom.cell(0), x);
            loom.step(2);
            Checks.same("its number", loom.act(0, true), x);
        }
    }

    /** Terms: "a STACK of ints": a + b and a - b go around at the ends. */
    private static void numbersWrapAround() {
        top("PUSH 2147483646; PUSH 1; ADD", MOST);
        top("PUSH 2147483647; PUSH 1; ADD", LEAST);
        top("PUSH 2147483647; PUSH 2147483647; ADD", -2);
        top("PUSH -2147483647; PUSH -1; ADD", LEAST);
        top("PUSH -2147483648; PUSH -1; ADD", MOST);
        top("PUSH -2147483648; PUSH -2147483648; ADD", 0);
        top("PUSH -2147483647; PUSH 1; SUBTRACT", LEAST);
        top("PUSH -2147483648; PUSH 1; SUBTRACT", MOST);
        top("PUSH 0; PUSH -2147483647; SUBTRACT", MOST);
        top("PUSH 0; PUSH -2147483648; SUBTRACT", LEAST);
        top("PUSH -1; PUSH -2147483648; SUBTRACT", MOST);
        top("PUSH 2147483647; PUSH -2147483648; SUBTRACT", -1);
    }

    /** Terms: "1 if a is less than b, else 0". */
    private static void lessAtItsBoundary() {
        top("PUSH 4; PUSH 5; LESS", 1);
        top("PUSH 5; PUSH 5; LESS", 0);
        top("PUSH 6; PUSH 5; LESS", 0);
        top("PUSH -1; PUSH 0; LESS", 1);
        top("PUSH 0; PUSH -1; LESS", 0);
        top("PUSH -2147483648; PUSH 2147483647; LESS", 1);
        top("PUSH 2147483647; PUSH -2147483648; LESS", 0);
        top("PUSH -2147483648; PUSH -2147483648; LESS", 0);
        top("PUSH 2147483647; PUSH 2147483647; LESS", 0);
        top("PUSH -2147483648; PUSH -2147483647; LESS", 1);
    }

    /** Terms: "if it is not 0, on at k". */
    private static void ifAtItsBoundary() {
        PolicyLoom loom = Checks.loom("LOAD 0; IF 3; END; END");
        for (int x : new int[] {LEAST, -1, 0, 1, 2, MOST}) {
            loom.start(Checks.PLAIN, x);
            loom.step(2);
            Checks.looks("IF of " + x, loom, Checks.GOES_ON, x == 0 ? 2 : 3, 0, 0, 0);
        }
    }

    /** Terms: the first and the last cell of the program, and the cells between them, are its own. */
    private static void cellsOfTheProgram() {
        PolicyLoom loom = new PolicyLoom();
        for (int k = 0; k <= 6; k++) {
            Checks.write(loom, Checks.PUSH, 10 + k, Checks.STORE, k);
        }
        Checks.write(loom, Checks.LOAD, 6, Checks.ACT, 6, Checks.LOAD, 0, Checks.ACT, 0, Checks.END, 0);
        Checks.run(loom, Checks.PLAIN, 5);
        for (int k = 0; k <= 6; k++) {
            Checks.same("cell " + k, loom.cell(k), 10 + k);
        }
        Checks.same("cell 7", loom.cell(7), 0);
        Checks.same("LOAD 6", loom.act(0, true), 16);
        Checks.same("LOAD 0", loom.act(1, true), 10);
    }

    /** Promise 11: "IllegalArgumentException: n is not 0 .. 2000". */
    private static void stepsAre0To2000() {
        PolicyLoom loom = Checks.loom("GO 1; GO 2; GO 0");
        loom.start(Checks.PLAIN, 0);
        Checks.badArguments("n", n -> loom.step(n), LEAST, -1, 2001, MOST);
        Checks.same("none by them", loom.look(Checks.PLACE), 0);
        Checks.same("0", loom.step(0), 0);
        Checks.same("where behind 0", loom.look(Checks.PLACE), 0);
        Checks.same("1", loom.step(1), 1);
        Checks.same("where behind 1", loom.look(Checks.PLACE), 1);
        Checks.same("1999", loom.step(1999), 1999);
        Checks.same("where behind 1999", loom.look(Checks.PLACE), 2000 % 3);
        Checks.same("2000", loom.step(2000), 2000);
        Checks.same("where behind 2000", loom.look(Checks.PLACE), 4000 % 3);
    }

    /** Promise 11: "Up to n steps", of a run that has 26 of them. */
    private static void upToNSteps() {
        for (int n : new int[] {0, 1, 24, 25, 26, 27, 2000}) {
            PolicyLoom loom = counting(Checks.PLAIN, -3);
            Checks.same("of 26, up to " + n, loom.step(n), Math.min(n, 26));
            int due = n < 26 ? Checks.GOES_ON : Checks.OVER;
            Checks.same("status behind up to " + n, loom.look(Checks.STATUS), due);
        }
    }

    /** Promise 11: "how many were done, the last one included", whichever way the run ends. */
    private static void theLastStepIsIncluded() {
        lastStep("OVER", counting(Checks.WATCHED, -3), 1 + 3 * 8 + 1, Checks.OVER);
        lastStep("OVER at once", counting(Checks.PLAIN, -1), 1 + 8 + 1, Checks.OVER);
        lastStep("STOPPED", counting(Checks.WATCHED, 67), 1 + 3 * 8 + 6, Checks.STOPPED);
        lastStep("STOPPED at once", counting(Checks.WATCHED, 70), 1 + 6, Checks.STOPPED);
        lastStep("FULL", counting(Checks.PLAIN, 9), 1 + 60 * 8 + 6, Checks.FULL);
        lastStep("FULL, watched", counting(Checks.WATCHED, 9), 1 + 60 * 8 + 6, Checks.FULL);
    }

    /** One by one ahead of the last step, as the steps of one call might hide where the run ended. */
    private static void lastStep(String what, PolicyLoom loom, int steps, int status) {
        Checks.same(what + ": all but the last", loom.step(steps - 1), steps - 1);
        Checks.same(what + ": it goes on", loom.look(Checks.STATUS), Checks.GOES_ON);
        int place = loom.look(Checks.PLACE);
        Checks.same(what + ": the last", loom.step(1), 1);
        Checks.same(what + ": it has ended", loom.look(Checks.STATUS), status);
        Checks.same(what + ": where the last one is", loom.look(Checks.PLACE), place);
    }

    /** Promise 11: of a run that has ended no step is done, and nothing changes. */
    private static void behindTheLastStep() {
        for (Situation situation : Situation.values()) {
            if (situation.status > Checks.GOES_ON) {
                PolicyLoom loom = situation.make();
                Checks.same(situation + ": step 2000", loom.step(2000), 0);
                Checks.same(situation + ": step 1", loom.step(1), 0);
                Checks.same(situation + ": step 0", loom.step(0), 0);
                boolean same = Situation.picture(loom).equals(Situation.picture(situation.make()));
                Checks.yes(situation + ": as it was", same);
            }
        }
    }

    /** Terms: "The run is OVER by END", also by one of the enforced program. */
    private static void overByEnd() {
        Checks.looks("END", ran(Checks.PLAIN, -3), Checks.OVER, END_PLACE, 1, 0, 3);
        Checks.looks("END, watched", ran(Checks.WATCHED, -3), Checks.OVER, END_PLACE, 1, 1, 3);
        Checks.looks("END, enforced", ran(Checks.ENFORCED, -3), Checks.OVER, END_ENFORCED, 1, 1, 3);
        Checks.looks("a STOP", ran(Checks.ENFORCED, 67), Checks.OVER, STOP_ENFORCED, 2, 1, 3);
        PolicyLoom loom = Checks.loom("END; END");
        loom.start(Checks.PLAIN, 0);
        Checks.looks("ahead of END", loom, Checks.GOES_ON, 0, 0, 0, 0);
        loom.step(1);
        Checks.looks("behind END", loom, Checks.OVER, 0, 0, 0, 0);
    }

    /** Terms: "FULL by an act that would be the 61st": 60 acts and an END are OVER. */
    private static void sixtyActsAreNotFull() {
        Checks.looks("59 acts", ran(Checks.PLAIN, -59), Checks.OVER, END_PLACE, 1, 0, 59);
        for (int how = 0; how <= 2; how++) {
            int place = how == Checks.ENFORCED ? END_ENFORCED : END_PLACE;
            Checks.looks("60 acts " + how, ran(how, -60), Checks.OVER, place, 1, 0, 60);
        }
        PolicyLoom loom = counting(Checks.PLAIN, -61);
        loom.step(1 + 60 * 8);
        Checks.looks("behind the 60th", loom, Checks.GOES_ON, 1, 1, 0, 60);
    }

    /** Terms: "FULL by an act that would be the 61st", plain and watched. */
    private static void fullByThe61st() {
        Checks.looks("61 acts", ran(Checks.PLAIN, -61), Checks.FULL, ACT_PLACE, 2, 0, 60);
        Checks.looks("61 acts, watched", ran(Checks.WATCHED, -61), Checks.FULL, ACT_PLACE, 2, 0, 60);
        PolicyLoom loom = counting(Checks.PLAIN, -61);
        loom.step(1 + 60 * 8 + 5);
        Checks.looks("ahead of the 61st", loom, Checks.GOES_ON, ACT_PLACE, 2, 0, 60);
        loom.step(1);
        Checks.looks("by the 61st", loom, Checks.FULL, ACT_PLACE, 2, 0, 60);
    }

    /** The same in the enforced program, where a test ahead of the act has changed cell 7. */
    private static void fullByTheEnforced61st() {
        PolicyLoom loom = ran(Checks.ENFORCED, -61);
        Checks.looks("61 acts, enforced", loom, Checks.FULL, ACT_ENFORCED, 2, 1, 60);
        Checks.same("cell 7", loom.cell(7), 1);
    }

    /** Terms: "(it is not done)": neither the trace nor the automaton's state has it. */
    private static void theFullActIsNotDone() {
        for (int how = 0; how <= 2; how++) {
            PolicyLoom loom = ran(how, -61);
            Checks.same("acts done " + how, loom.look(Checks.DONE), 60);
            Checks.same("the 60th's number " + how, loom.act(59, true), -1);
            Checks.badIndexes("act " + how, i -> loom.act(i, true), 60, 61);
        }
        Checks.same("state, watched", ran(Checks.WATCHED, -61).look(Checks.STATE), 0);
        Checks.same("state behind 59", ran(Checks.WATCHED, -59).look(Checks.STATE), 1);
    }

    /** Terms: "STOPPED by an act that is not allowed, when it is watched (it is not done)". */
    private static void stoppedByAnActThatIsNotAllowed() {
        Checks.looks("the first", ran(Checks.WATCHED, 70), Checks.STOPPED, ACT_PLACE, 2, 0, 0);
        Checks.looks("the second", ran(Checks.WATCHED, 69), Checks.STOPPED, ACT_PLACE, 2, 1, 1);
        Checks.looks("too low", ran(Checks.WATCHED, -102), Checks.STOPPED, ACT_PLACE, 2, 0, 0);
        Checks.looks("the lowest", ran(Checks.WATCHED, -101), Checks.FULL, ACT_PLACE, 2, 0, 60);
        PolicyLoom loom = ran(Checks.WATCHED, 69);
        Checks.same("the first one's number", loom.act(0, true), 70);
        Checks.badIndex("the second is not done", () -> loom.act(1, true));
    }

    /** Terms: "(.. this goes ahead of FULL)": 71 as the 60th, as the 61st, and as the one behind. */
    private static void stoppedGoesAheadOfFull() {
        Checks.looks("the 60th", ran(Checks.WATCHED, 11), Checks.STOPPED, ACT_PLACE, 2, 1, 59);
        Checks.looks("the 61st", ran(Checks.WATCHED, 10), Checks.STOPPED, ACT_PLACE, 2, 0, 60);
        Checks.looks("the 62nd", ran(Checks.WATCHED, 9), Checks.FULL, ACT_PLACE, 2, 0, 60);
        PolicyLoom loom = counting("PUSH 1; ACT 3; LOAD 1; PUSH 1; ADD; DUPLICATE; STORE 1; "
                + "PUSH 60; LESS; IF 0; PUSH 1; ACT 4; END", Checks.WATCHED, 0);
        loom.step(2000);
        Checks.looks("without a rule", loom, Checks.STOPPED, 11, 1, 0, 60);
    }

    /** The enforced program ends by its STOP ahead of the act that would be the 61st. */
    private static void theEnforcedStopGoesAheadOfFull() {
        Checks.looks("the 60th", ran(Checks.ENFORCED, 11), Checks.OVER, STOP_ENFORCED, 2, 1, 59);
        Checks.looks("the 61st", ran(Checks.ENFORCED, 10), Checks.OVER, STOP_ENFORCED, 2, 0, 60);
        Checks.looks("the 62nd", ran(Checks.ENFORCED, 9), Checks.FULL, ACT_ENFORCED, 2, 1, 60);
    }

    /** Terms: "when it is watched": a plain run does what is not allowed. */
    private static void onlyWatchedIsStopped() {
        Checks.looks("plain", ran(Checks.PLAIN, 67), Checks.FULL, ACT_PLACE, 2, 0, 60);
        Checks.looks("watched", ran(Checks.WATCHED, 67), Checks.STOPPED, ACT_PLACE, 2, 1, 3);
        Checks.looks("enforced", ran(Checks.ENFORCED, 67), Checks.OVER, STOP_ENFORCED, 2, 1, 3);
    }

    /** Promise 12: "IllegalArgumentException: another what"; "(1 .. 4: 0 if there is no run.)". */
    private static void whatIs0To4() {
        for (Situation situation : Situation.values()) {
            PolicyLoom loom = situation.make();
            Checks.badArguments(situation + ": what", what -> loom.look(what), LEAST, -1, 5, MOST);
            Checks.same(situation + ": status", loom.look(0), situation.status);
            for (int what = 1; what <= 4 && !situation.runs(); what++) {
                Checks.same(situation + ": look " + what, loom.look(what), 0);
            }
        }
    }

    /** Promise 12: "(the instruction that comes; of a run that has ended the last one)". */
    private static void whereItIs() {
        PolicyLoom loom = Checks.loom("PUSH 0; IF 0; GO 4; END; PUSH 1; IF 3; END");
        loom.start(Checks.PLAIN, 0);
        int[] due = {0, 1, 2, 4, 5, 3, 3, 3};
        for (int i = 0; i < due.length; i++) {
            Checks.same("where behind " + i, loom.look(Checks.PLACE), due[i]);
            loom.step(1);
        }
    }

    /** Promise 12: "how many are on the stack", none and 12 of them. */
    private static void howManyAreOnTheStack() {
        PolicyLoom loom = Checks.loom("PUSH 1; ".repeat(12) + "ADD; ".repeat(11) + "END");
        loom.start(Checks.PLAIN, 0);
        for (int i = 0; i <= 12; i++) {
            Checks.same("up", loom.look(Checks.STACKED), i);
            Checks.same("a step", loom.step(1), 1);
        }
        for (int i = 11; i >= 1; i--) {
            Checks.same("down", loom.look(Checks.STACKED), i);
            Checks.same("a step", loom.step(1), 1);
        }
        Checks.looks("over", loom, Checks.OVER, 23, 1, 0, 0);
    }

    /** Promise 12: "the automaton's state (watched), the number in cell 7 (enforced), 0 (plain)". */
    private static void theStateOfEachRun() {
        PolicyLoom loom = Checks.loom("LOAD 0; ACT 3; END");
        loom.states(4);
        loom.rule(0, 3, 0, 9, 3);
        int[] due = {0, 3, 3};
        int[] cell7 = {0, 3, 0};
        for (int how = 0; how <= 2; how++) {
            loom.start(how, 5);
            Checks.same("at first " + how, loom.look(Checks.STATE), 0);
            loom.step(2000);
            Checks.same("state " + how, loom.look(Checks.STATE), due[how]);
            Checks.same("cell 7 " + how, loom.cell(7), cell7[how]);
        }
    }

    /** Promise 13: "IndexOutOfBoundsException: none, or there is no run". */
    private static void actsOfTheTrace() {
        PolicyLoom loom = Checks.loom("PUSH 8; ACT 0; PUSH 9; ACT 7; END");
        Checks.badIndexes("no run: act", i -> loom.act(i, false), LEAST, -1, 0, MOST);
        loom.start(Checks.PLAIN, 0);
        Checks.badIndexes("none: act", i -> loom.act(i, false), LEAST, -1, 0, MOST);
        loom.step(2);
        Checks.same("one: act 0", loom.act(0, false), 0);
        Checks.same("one: number 0", loom.act(0, true), 8);
        Checks.badIndexes("one: act", i -> loom.act(i, true), LEAST, -1, 1, MOST);
        loom.step(2000);
        Checks.same("two: act 1", loom.act(1, false), 7);
        Checks.same("two: number 1", loom.act(1, true), 9);
        Checks.badIndexes("two: act", i -> loom.act(i, false), LEAST, -1, 2, MOST);
        loom.clear();
        Checks.badIndexes("no run again: act", i -> loom.act(i, true), -1, 0, 1, 2);
    }

    /** The same where the trace has all its 60 acts. */
    private static void actsOfAFullTrace() {
        PolicyLoom loom = ran(Checks.PLAIN, 9);
        for (int i = 0; i < 60; i++) {
            Checks.same("act " + i, loom.act(i, false), 3);
            Checks.same("number " + i, loom.act(i, true), 10 + i);
        }
        Checks.badIndexes("act", i -> loom.act(i, false), LEAST, -1, 60, 61, MOST);
        Checks.badIndexes("number", i -> loom.act(i, true), LEAST, -1, 60, 61, MOST);
    }

    /** The trace is of this run: what an earlier one did is none of it. */
    private static void actsOfAnEarlierRun() {
        PolicyLoom loom = ran(Checks.PLAIN, 9);
        Checks.run(loom, Checks.PLAIN, -2);
        Checks.same("number 1", loom.act(1, true), 0);
        Checks.badIndexes("act", i -> loom.act(i, true), 2, 59);
        loom.start(Checks.WATCHED, 9);
        Checks.badIndexes("begun: act", i -> loom.act(i, true), 0, 1, 59);
    }

    /** Promise 14: "The number in a cell, 0 .. 7; 0 if there is no run. IndexOutOfBoundsException: no cell". */
    private static void cellsAre0To7() {
        for (Situation situation : Situation.values()) {
            PolicyLoom loom = situation.make();
            Checks.badIndexes(situation + ": cell", k -> loom.cell(k), LEAST, -1, 8, MOST);
            for (int k = 0; k < 8 && !situation.runs(); k++) {
                Checks.same(situation + ": cell " + k, loom.cell(k), 0);
            }
        }
        PolicyLoom loom = ran(Checks.ENFORCED, 67);
        Checks.same("the first", loom.cell(0), 71);
        Checks.same("the last", loom.cell(7), 1);
        loom.states(2);
        Checks.same("the first without a run", loom.cell(0), 0);
        Checks.same("the last without a run", loom.cell(7), 0);
    }

    private static PolicyLoom counting(int how, int x) {
        return counting(Situation.COUNT, how, x);
    }

    private static PolicyLoom counting(String text, int how, int x) {
        PolicyLoom loom = Situation.counting(text);
        loom.start(how, x);
        return loom;
    }

    private static PolicyLoom ran(int how, int x) {
        PolicyLoom loom = counting(how, x);
        loom.step(2000);
        return loom;
    }

    /** What the code leaves on top, seen by an act. */
    private static void top(String text, int due) {
        PolicyLoom loom = Checks.loom(text + "; ACT 2; END");
        Checks.run(loom, Checks.PLAIN, 0);
        Checks.same(text, loom.act(0, true), due);
    }
}
