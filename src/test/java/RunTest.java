/** Promises 10 to 14 in ordinary use: start, step, look, act and cell. */
public final class RunTest {

    public static void main(String[] args) {
        stepCounts();
        eachOperation();
        plainIsNotWatched();
        watchedMovesAndStops();
        enforcedMovesAndEnds();
        Checks.finish();
    }

    private static void stepCounts() {
        PolicyLoom loom = Checks.loom(Checks.PUSH, 2, Checks.DROP, 0, Checks.END, 0, Checks.END, 0);
        loom.start(Checks.PLAIN, 0);
        Checks.same("no step", loom.step(0), 0);
        Checks.looks("no step", loom, Checks.GOES_ON, 0, 0, 0, 0);
        Checks.same("one step", loom.step(1), 1);
        Checks.looks("one step", loom, Checks.GOES_ON, 1, 1, 0, 0);
        Checks.same("the second", loom.step(1), 1);
        Checks.looks("the second", loom, Checks.GOES_ON, 2, 0, 0, 0);
        Checks.same("END is a step", loom.step(7), 1);
        Checks.looks("END", loom, Checks.OVER, 2, 0, 0, 0);
        Checks.same("behind the end", loom.step(2000), 0);
        Checks.looks("behind the end", loom, Checks.OVER, 2, 0, 0, 0);
        PolicyLoom forever = Checks.loom(Checks.GO, 1, Checks.GO, 0);
        forever.start(Checks.WATCHED, 0);
        Checks.same("2000 steps", forever.step(2000), 2000);
        Checks.same("1999 steps", forever.step(1999), 1999);
        Checks.looks("forever", forever, Checks.GOES_ON, 1, 0, 0, 0);
    }

    private static void eachOperation() {
        same("PUSH", 5, Checks.PUSH, 5);
        same("DROP", 5, Checks.PUSH, 5, Checks.PUSH, 6, Checks.DROP, 0);
        same("ADD", 11, Checks.PUSH, 5, Checks.PUSH, 6, Checks.ADD, 0);
        same("SUBTRACT", -1, Checks.PUSH, 5, Checks.PUSH, 6, Checks.SUBTRACT, 0);
        same("LESS", 1, Checks.PUSH, 5, Checks.PUSH, 6, Checks.LESS, 0);
        same("LESS of like ones", 0, Checks.PUSH, 5, Checks.PUSH, 5, Checks.LESS, 0);
        same("LESS of a greater one", 0, Checks.PUSH, 6, Checks.PUSH, 5, Checks.LESS, 0);
        same("LOAD", 77, Checks.LOAD, 0);
        same("LOAD of 0", 0, Checks.LOAD, 6);
        same("STORE", 8, Checks.PUSH, 8, Checks.STORE, 6, Checks.LOAD, 6);
        same("GO", 1, Checks.PUSH, 1, Checks.GO, 3, Checks.DUPLICATE, 0);
        same("SWAP", 5, Checks.PUSH, 5, Checks.PUSH, 6, Checks.SWAP, 0);
        same("below SWAP", 6, Checks.PUSH, 5, Checks.PUSH, 6, Checks.SWAP, 0, Checks.DROP, 0);
        same("DUPLICATE", 6, Checks.PUSH, 5, Checks.PUSH, 6, Checks.DUPLICATE, 0);
        same("below DUPLICATE", 6, Checks.PUSH, 5, Checks.PUSH, 6, Checks.DUPLICATE, 0, Checks.DROP, 0);
        same("below ACT", 5, Checks.PUSH, 5, Checks.PUSH, 6, Checks.ACT, 1);
    }

    /** What is on top behind the code, seen by an act, as the stack itself is not shown. */
    private static void same(String what, int due, int... code) {
        PolicyLoom loom = Checks.loom(code);
        Checks.write(loom, Checks.ACT, 2, Checks.END, 0);
        loom.start(Checks.PLAIN, 77);
        loom.step(100);
        Checks.same(what + ": over", loom.look(Checks.STATUS), Checks.OVER);
        int last = loom.look(Checks.DONE) - 1;
        Checks.same(what + ": act", loom.act(last, false), 2);
        Checks.same(what, loom.act(last, true), due);
    }

    private static void plainIsNotWatched() {
        PolicyLoom loom = Checks.loom(Checks.LOAD, 0, Checks.ACT, 4, Checks.END, 0);
        loom.states(2);
        loom.rule(0, 4, 5, 5, 1);
        loom.start(Checks.PLAIN, 6);
        Checks.same("plain", loom.step(10), 3);
        Checks.looks("plain", loom, Checks.OVER, 2, 0, 0, 1);
        loom.start(Checks.PLAIN, 5);
        loom.step(10);
        Checks.looks("plain has no state", loom, Checks.OVER, 2, 0, 0, 1);
    }

    private static PolicyLoom twoActs() {
        PolicyLoom loom = Checks.loom(Checks.PUSH, 40, Checks.LOAD, 0, Checks.ACT, 4,
                Checks.LOAD, 0, Checks.ACT, 6, Checks.END, 0);
        loom.states(3);
        loom.rule(0, 4, -2, 5, 2);
        loom.rule(2, 6, 0, 3, 1);
        return loom;
    }

    private static void watchedMovesAndStops() {
        PolicyLoom loom = twoActs();
        loom.start(Checks.WATCHED, 3);
        Checks.same("allowed: to the first act", loom.step(3), 3);
        Checks.looks("allowed: the first act", loom, Checks.GOES_ON, 3, 1, 2, 1);
        Checks.same("allowed: to the end", loom.step(9), 3);
        Checks.looks("allowed", loom, Checks.OVER, 5, 1, 1, 2);
        Checks.same("allowed: act 0", loom.act(0, false), 4);
        Checks.same("allowed: act 1", loom.act(1, false), 6);
        Checks.same("allowed: number 1", loom.act(1, true), 3);
        Checks.same("allowed: cell 7", loom.cell(7), 0);

        loom.start(Checks.WATCHED, 4);
        Checks.same("the second is not allowed", loom.step(9), 5);
        Checks.looks("the second is not allowed", loom, Checks.STOPPED, 4, 2, 2, 1);
        Checks.badIndex("it is not done", () -> loom.act(1, true));
        Checks.same("nothing behind it", loom.step(9), 0);
        Checks.looks("nothing behind it", loom, Checks.STOPPED, 4, 2, 2, 1);

        loom.start(Checks.WATCHED, -3);
        Checks.same("the first is too low", loom.step(9), 3);
        Checks.looks("the first is too low", loom, Checks.STOPPED, 2, 2, 0, 0);
        loom.start(Checks.WATCHED, 6);
        loom.step(9);
        Checks.looks("the first is too high", loom, Checks.STOPPED, 2, 2, 0, 0);
        loom.start(Checks.WATCHED, -2);
        loom.step(9);
        Checks.looks("the lowest", loom, Checks.STOPPED, 4, 2, 2, 1);
        loom.start(Checks.WATCHED, 5);
        loom.step(9);
        Checks.looks("the highest", loom, Checks.STOPPED, 4, 2, 2, 1);
    }

    private static void enforcedMovesAndEnds() {
        PolicyLoom loom = twoActs();
        loom.start(Checks.ENFORCED, 3);
        Checks.same("ahead of the first act", loom.step(17), 17);
        Checks.looks("ahead of the first act", loom, Checks.GOES_ON, 17, 2, 2, 0);
        Checks.same("cell 7 ahead of the act", loom.cell(7), 2);
        Checks.same("GO over the STOP, the act", loom.step(2), 2);
        Checks.looks("the first act", loom, Checks.GOES_ON, 20, 1, 2, 1);
        Checks.same("to the end", loom.step(100), 19);
        Checks.looks("the end", loom, Checks.OVER, 39, 1, 1, 2);
        Checks.same("act 0", loom.act(0, false), 4);
        Checks.same("number 0", loom.act(0, true), 3);
        Checks.same("act 1", loom.act(1, false), 6);
        Checks.same("number 1", loom.act(1, true), 3);

        loom.start(Checks.ENFORCED, 4);
        loom.step(100);
        Checks.looks("the second would not be allowed", loom, Checks.OVER, 37, 2, 2, 1);
        loom.start(Checks.ENFORCED, -3);
        Checks.same("too low", loom.step(100), 11);
        Checks.looks("too low", loom, Checks.OVER, 18, 2, 0, 0);
        loom.start(Checks.ENFORCED, 6);
        Checks.same("too high", loom.step(100), 16);
        Checks.looks("too high", loom, Checks.OVER, 18, 2, 0, 0);
    }
}
