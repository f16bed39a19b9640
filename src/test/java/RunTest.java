/** Promises 10 to 14: start, step, look, act and cell. */
public final class RunTest {

    public static void main(String[] args) {
        startPutsAllAsAtFirst();
        startRefuses();
        stepCounts();
        stepRefuses();
        eachOperation();
        arithmeticWrapsAround();
        ifGoesOrNot();
        plainIsNotWatched();
        watchedMovesAndStops();
        enforcedMovesAndEnds();
        enforcedOnTheHighestStack();
        fullPlain();
        fullWatched();
        stoppedAheadOfFull();
        fullEnforced();
        overIsNotFull();
        lookRefuses();
        actRefuses();
        cellRefuses();
        Checks.finish();
    }

    private static void startPutsAllAsAtFirst() {
        PolicyLoom loom = Checks.loom(Checks.LOAD, 0, Checks.DUPLICATE, 0, Checks.STORE, 6,
                Checks.DUPLICATE, 0, Checks.ACT, 1, Checks.PUSH, 3, Checks.STORE, 0, Checks.END, 0);
        loom.states(2);
        loom.rule(0, 1, 0, 9, 1);
        for (int how = 0; how <= 2; how++) {
            loom.start(how, 8);
            Checks.looks("start " + how, loom, Checks.GOES_ON, 0, 0, 0, 0);
            Checks.badIndex("start " + how + ": no act", () -> loom.act(0, false));
            Checks.same("start " + how + ": cell 0", loom.cell(0), 8);
            for (int k = 1; k < 8; k++) {
                Checks.same("start " + how + ": cell " + k, loom.cell(k), 0);
            }
            loom.step(100);
            Checks.same("run " + how + ": over", loom.look(Checks.STATUS), Checks.OVER);
            Checks.same("run " + how + ": stacked", loom.look(Checks.STACKED), 1);
            Checks.same("run " + how + ": state", loom.look(Checks.STATE), how == Checks.PLAIN ? 0 : 1);
            Checks.same("run " + how + ": done", loom.look(Checks.DONE), 1);
            Checks.same("run " + how + ": cell 0", loom.cell(0), 3);
            Checks.same("run " + how + ": cell 6", loom.cell(6), 8);
            Checks.same("run " + how + ": cell 7", loom.cell(7), how == Checks.ENFORCED ? 1 : 0);
        }
        loom.start(Checks.PLAIN, Integer.MIN_VALUE);
        Checks.same("cell 0 is any number", loom.cell(0), Integer.MIN_VALUE);
    }

    private static void startRefuses() {
        PolicyLoom loom = Checks.loom(Checks.PUSH, 2, Checks.END, 0);
        loom.start(Checks.PLAIN, 4);
        loom.step(1);
        int[] wrong = {-1, 3, Integer.MIN_VALUE, Integer.MAX_VALUE};
        for (int how : wrong) {
            Checks.badArgument("start " + how, () -> Checks.start(loom, how, 9));
        }
        Checks.looks("start that throws keeps the run", loom, Checks.GOES_ON, 1, 1, 0, 0);
        Checks.same("start that throws keeps the cells", loom.cell(0), 4);
        PolicyLoom ill = new PolicyLoom();
        Checks.badState("start without a program", () -> Checks.start(ill, 0, 0));
        Checks.badState("start, state ahead of how", () -> Checks.start(ill, 3, 0));
        Checks.noRun("start that throws begins none", ill);
    }

    private static void stepCounts() {
        PolicyLoom loom = Checks.loom(Checks.PUSH, 2, Checks.DROP, 0, Checks.END, 0, Checks.END, 0);
        loom.start(Checks.PLAIN, 0);
        Checks.same("no step", loom.step(0), 0);
        Checks.looks("no step", loom, Checks.GOES_ON, 0, 0, 0, 0);
        Checks.same("one step", loom.step(1), 1);
        Checks.looks("one step", loom, Checks.GOES_ON, 1, 1, 0, 0);
        Checks.same("the second", loom.step(1), 1);
        Checks.looks("the second", loom, Checks.GOES_ON, 2, 0, 0, 0);
        Checks.same("END is a step", loom.step(7), 1);
        Checks.looks("END", loom, Checks.OVER, 2, 0, 0, 0);
        Checks.same("behind the end", loom.step(2000), 0);
        Checks.looks("behind the end", loom, Checks.OVER, 2, 0, 0, 0);
        PolicyLoom forever = Checks.loom(Checks.GO, 1, Checks.GO, 0);
        forever.start(Checks.WATCHED, 0);
        Checks.same("2000 steps", forever.step(2000), 2000);
        Checks.same("1999 steps", forever.step(1999), 1999);
        Checks.looks("forever", forever, Checks.GOES_ON, 1, 0, 0, 0);
    }

    private static void stepRefuses() {
        PolicyLoom loom = Checks.loom(Checks.END, 0);
        Checks.badState("no run", () -> loom.step(1));
        Checks.badState("no run, state ahead of n", () -> loom.step(-1));
        loom.start(Checks.PLAIN, 0);
        int[] wrong = {-1, 2001, Integer.MIN_VALUE, Integer.MAX_VALUE};
        for (int n : wrong) {
            Checks.badArgument("step " + n, () -> loom.step(n));
        }
        Checks.looks("step that throws does none", loom, Checks.GOES_ON, 0, 0, 0, 0);
        loom.step(1);
        Checks.badArgument("step of a run that has ended", () -> loom.step(2001));
    }

    private static void eachOperation() {
        same("PUSH", 5, Checks.PUSH, 5);
        same("DROP", 5, Checks.PUSH, 5, Checks.PUSH, 6, Checks.DROP, 0);
        same("ADD", 11, Checks.PUSH, 5, Checks.PUSH, 6, Checks.ADD, 0);
        same("SUBTRACT", -1, Checks.PUSH, 5, Checks.PUSH, 6, Checks.SUBTRACT, 0);
        same("LESS", 1, Checks.PUSH, 5, Checks.PUSH, 6, Checks.LESS, 0);
        same("LESS of like ones", 0, Checks.PUSH, 5, Checks.PUSH, 5, Checks.LESS, 0);
        same("LESS of a greater one", 0, Checks.PUSH, 6, Checks.PUSH, 5, Checks.LESS, 0);
        same("LOAD", 77, Checks.LOAD, 0);
        same("LOAD of 0", 0, Checks.LOAD, 6);
        same("STORE", 8, Checks.PUSH, 8, Checks.STORE, 6, Checks.LOAD, 6);
        same("GO", 1, Checks.PUSH, 1, Checks.GO, 3, Checks.DUPLICATE, 0);
        same("SWAP", 5, Checks.PUSH, 5, Checks.PUSH, 6, Checks.SWAP, 0);
        same("below SWAP", 6, Checks.PUSH, 5, Checks.PUSH, 6, Checks.SWAP, 0, Checks.DROP, 0);
        same("DUPLICATE", 6, Checks.PUSH, 5, Checks.PUSH, 6, Checks.DUPLICATE, 0);
        same("below DUPLICATE", 6, Checks.PUSH, 5, Checks.PUSH, 6, Checks.DUPLICATE, 0, Checks.DROP, 0);
        same("below ACT", 5, Checks.PUSH, 5, Checks.PUSH, 6, Checks.ACT, 1);
    }

    /** What is on top behind the code, seen by an act, as the stack itself is not shown. */
    private static void same(String what, int due, int... code) {
        PolicyLoom loom = Checks.loom(code);
        Checks.write(loom, Checks.ACT, 2, Checks.END, 0);
        loom.start(Checks.PLAIN, 77);
        loom.step(100);
        Checks.same(what + ": over", loom.look(Checks.STATUS), Checks.OVER);
        int last = loom.look(Checks.DONE) - 1;
        Checks.same(what + ": act", loom.act(last, false), 2);
        Checks.same(what, loom.act(last, true), due);
    }

    private static void arithmeticWrapsAround() {
        int most = Integer.MAX_VALUE;
        int least = Integer.MIN_VALUE;
        same("most + 1", least, Checks.PUSH, most, Checks.PUSH, 1, Checks.ADD, 0);
        same("least - 1", most, Checks.PUSH, least, Checks.PUSH, 1, Checks.SUBTRACT, 0);
        same("0 - least", least, Checks.PUSH, 0, Checks.PUSH, least, Checks.SUBTRACT, 0);
        same("least is less than most", 1, Checks.PUSH, least, Checks.PUSH, most, Checks.LESS, 0);
        same("most is not less than least", 0, Checks.PUSH, most, Checks.PUSH, least, Checks.LESS, 0);
    }

    private static void ifGoesOrNot() {
        PolicyLoom loom = Checks.loom(Checks.LOAD, 0, Checks.IF, 3, Checks.END, 0, Checks.END, 0);
        int[] gone = {1, -1, Integer.MIN_VALUE, 2};
        for (int x : gone) {
            loom.start(Checks.PLAIN, x);
            loom.step(2);
            Checks.looks("IF of " + x, loom, Checks.GOES_ON, 3, 0, 0, 0);
        }
        loom.start(Checks.PLAIN, 0);
        loom.step(2);
        Checks.looks("IF of 0", loom, Checks.GOES_ON, 2, 0, 0, 0);
    }

    private static void plainIsNotWatched() {
        PolicyLoom loom = Checks.loom(Checks.LOAD, 0, Checks.ACT, 4, Checks.END, 0);
        loom.states(2);
        loom.rule(0, 4, 5, 5, 1);
        loom.start(Checks.PLAIN, 6);
        Checks.same("plain", loom.step(10), 3);
        Checks.looks("plain", loom, Checks.OVER, 2, 0, 0, 1);
        loom.start(Checks.PLAIN, 5);
        loom.step(10);
        Checks.looks("plain has no state", loom, Checks.OVER, 2, 0, 0, 1);
    }

    private static PolicyLoom twoActs() {
        PolicyLoom loom = Checks.loom(Checks.PUSH, 40, Checks.LOAD, 0, Checks.ACT, 4,
                Checks.LOAD, 0, Checks.ACT, 6, Checks.END, 0);
        loom.states(3);
        loom.rule(0, 4, -2, 5, 2);
        loom.rule(2, 6, 0, 3, 1);
        return loom;
    }

    private static void watchedMovesAndStops() {
        PolicyLoom loom = twoActs();
        loom.start(Checks.WATCHED, 3);
        Checks.same("allowed: to the first act", loom.step(3), 3);
        Checks.looks("allowed: the first act", loom, Checks.GOES_ON, 3, 1, 2, 1);
        Checks.same("allowed: to the end", loom.step(9), 3);
        Checks.looks("allowed", loom, Checks.OVER, 5, 1, 1, 2);
        Checks.same("allowed: act 0", loom.act(0, false), 4);
        Checks.same("allowed: act 1", loom.act(1, false), 6);
        Checks.same("allowed: number 1", loom.act(1, true), 3);
        Checks.same("allowed: cell 7", loom.cell(7), 0);

        loom.start(Checks.WATCHED, 4);
        Checks.same("the second is not allowed", loom.step(9), 5);
        Checks.looks("the second is not allowed", loom, Checks.STOPPED, 4, 2, 2, 1);
        Checks.badIndex("it is not done", () -> loom.act(1, true));
        Checks.same("nothing behind it", loom.step(9), 0);
        Checks.looks("nothing behind it", loom, Checks.STOPPED, 4, 2, 2, 1);

        loom.start(Checks.WATCHED, -3);
        Checks.same("the first is too low", loom.step(9), 3);
        Checks.looks("the first is too low", loom, Checks.STOPPED, 2, 2, 0, 0);
        loom.start(Checks.WATCHED, 6);
        loom.step(9);
        Checks.looks("the first is too high", loom, Checks.STOPPED, 2, 2, 0, 0);
        loom.start(Checks.WATCHED, -2);
        loom.step(9);
        Checks.looks("the lowest", loom, Checks.STOPPED, 4, 2, 2, 1);
        loom.start(Checks.WATCHED, 5);
        loom.step(9);
        Checks.looks("the highest", loom, Checks.STOPPED, 4, 2, 2, 1);
    }

    private static void enforcedMovesAndEnds() {
        PolicyLoom loom = twoActs();
        loom.start(Checks.ENFORCED, 3);
        Checks.same("ahead of the first act", loom.step(17), 17);
        Checks.looks("ahead of the first act", loom, Checks.GOES_ON, 17, 2, 2, 0);
        Checks.same("cell 7 ahead of the act", loom.cell(7), 2);
        Checks.same("GO over the STOP, the act", loom.step(2), 2);
        Checks.looks("the first act", loom, Checks.GOES_ON, 20, 1, 2, 1);
        Checks.same("to the end", loom.step(100), 19);
        Checks.looks("the end", loom, Checks.OVER, 39, 1, 1, 2);
        Checks.same("act 0", loom.act(0, false), 4);
        Checks.same("number 0", loom.act(0, true), 3);
        Checks.same("act 1", loom.act(1, false), 6);
        Checks.same("number 1", loom.act(1, true), 3);

        loom.start(Checks.ENFORCED, 4);
        loom.step(100);
        Checks.looks("the second would not be allowed", loom, Checks.OVER, 37, 2, 2, 1);
        loom.start(Checks.ENFORCED, -3);
        Checks.same("too low", loom.step(100), 11);
        Checks.looks("too low", loom, Checks.OVER, 18, 2, 0, 0);
        loom.start(Checks.ENFORCED, 6);
        Checks.same("too high", loom.step(100), 16);
        Checks.looks("too high", loom, Checks.OVER, 18, 2, 0, 0);
    }

    private static void enforcedOnTheHighestStack() {
        PolicyLoom loom = new PolicyLoom();
        for (int i = 0; i < 12; i++) {
            loom.code(Checks.PUSH, i);
        }
        Checks.write(loom, Checks.ACT, 0, Checks.ACT, 0, Checks.END, 0);
        loom.rule(0, 0, 11, 11, 0);
        loom.start(Checks.ENFORCED, 0);
        loom.step(14);
        Checks.same("14 on the stack", loom.look(Checks.STACKED), 14);
        loom.step(100);
        Checks.looks("the highest stack", loom, Checks.OVER, 46, 11, 0, 1);
        Checks.same("the act's number", loom.act(0, true), 11);
    }

    private static PolicyLoom endless() {
        PolicyLoom loom = Checks.loom(Checks.PUSH, 1, Checks.LOAD, 0, Checks.ADD, 0, Checks.DUPLICATE, 0,
                Checks.STORE, 0, Checks.ACT, 3, Checks.GO, 0);
        loom.states(2);
        return loom;
    }

    private static void fullPlain() {
        PolicyLoom loom = endless();
        loom.start(Checks.PLAIN, 0);
        Checks.same("60 acts", loom.step(60 * 7), 60 * 7);
        Checks.looks("60 acts", loom, Checks.GOES_ON, 0, 0, 0, 60);
        Checks.same("the 61st is a step", loom.step(50), 6);
        Checks.looks("the 61st", loom, Checks.FULL, 5, 1, 0, 60);
        Checks.same("nothing behind it", loom.step(50), 0);
        for (int i = 0; i < 60; i++) {
            Checks.same("act " + i, loom.act(i, false), 3);
            Checks.same("number " + i, loom.act(i, true), i + 1);
        }
        Checks.badIndex("act 60", () -> loom.act(60, true));
    }

    private static void fullWatched() {
        PolicyLoom loom = endless();
        loom.rule(0, 3, 1, 100, 1);
        loom.rule(1, 3, 1, 100, 0);
        loom.start(Checks.WATCHED, 0);
        Checks.same("watched", loom.step(2000), 60 * 7 + 6);
        Checks.looks("watched, the 61st", loom, Checks.FULL, 5, 1, 0, 60);
    }

    private static void stoppedAheadOfFull() {
        PolicyLoom loom = endless();
        loom.rule(0, 3, 1, 60, 1);
        loom.rule(1, 3, 1, 60, 0);
        loom.start(Checks.WATCHED, 0);
        Checks.same("stopped", loom.step(2000), 60 * 7 + 6);
        Checks.looks("the 61st is not allowed", loom, Checks.STOPPED, 5, 1, 0, 60);
    }

    private static void fullEnforced() {
        PolicyLoom loom = endless();
        loom.rule(0, 3, 1, 100, 1);
        loom.rule(1, 3, 1, 100, 0);
        loom.start(Checks.ENFORCED, 0);
        Checks.same("enforced", loom.step(2000), 60 * 7 + 6 + 61 * 16 + 30 * 4);
        Checks.looks("enforced, the 61st", loom, Checks.FULL, 38, 1, 1, 60);
        loom.rule(0, 3, 1, 60, 1);
        loom.start(Checks.ENFORCED, 0);
        loom.step(2000);
        Checks.looks("enforced, the 61st is not allowed", loom, Checks.OVER, 37, 1, 0, 60);
    }

    private static void overIsNotFull() {
        PolicyLoom loom = Checks.loom(Checks.PUSH, 1, Checks.ACT, 3, Checks.LOAD, 1, Checks.PUSH, 1, Checks.ADD, 0,
                Checks.DUPLICATE, 0, Checks.STORE, 1, Checks.LOAD, 0, Checks.LESS, 0, Checks.IF, 0, Checks.END, 0);
        loom.start(Checks.PLAIN, 60);
        loom.step(2000);
        Checks.looks("just 60 acts", loom, Checks.OVER, 10, 0, 0, 60);
        loom.start(Checks.PLAIN, 61);
        loom.step(2000);
        Checks.looks("61 acts", loom, Checks.FULL, 1, 1, 0, 60);
    }

    private static void lookRefuses() {
        PolicyLoom loom = Checks.loom(Checks.END, 0);
        int[] wrong = {-1, 5, Integer.MIN_VALUE, Integer.MAX_VALUE};
        for (int what : wrong) {
            Checks.badArgument("look " + what + " without a run", () -> loom.look(what));
        }
        loom.start(Checks.PLAIN, 0);
        for (int what : wrong) {
            Checks.badArgument("look " + what, () -> loom.look(what));
        }
    }

    private static void actRefuses() {
        PolicyLoom loom = Checks.loom(Checks.PUSH, 9, Checks.ACT, 3, Checks.PUSH, 8, Checks.ACT, 2, Checks.END, 0);
        loom.start(Checks.PLAIN, 0);
        loom.step(9);
        loom.start(Checks.PLAIN, 0);
        loom.step(2);
        Checks.same("act", loom.act(0, false), 3);
        Checks.same("number", loom.act(0, true), 9);
        int[] wrong = {-1, 1, 60, Integer.MIN_VALUE, Integer.MAX_VALUE};
        for (int i : wrong) {
            Checks.badIndex("act " + i, () -> loom.act(i, false));
            Checks.badIndex("number " + i, () -> loom.act(i, true));
        }
    }

    private static void cellRefuses() {
        PolicyLoom loom = Checks.loom(Checks.END, 0);
        int[] wrong = {-1, 8, Integer.MIN_VALUE, Integer.MAX_VALUE};
        for (int k : wrong) {
            Checks.badIndex("cell " + k + " without a run", () -> loom.cell(k));
        }
        loom.start(Checks.PLAIN, 0);
        for (int k : wrong) {
            Checks.badIndex("cell " + k, () -> loom.cell(k));
        }
    }
}
