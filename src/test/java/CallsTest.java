/**
 * What it is: "An object is used for at most 512 calls after it has been made": all of them are
 * answered rightly up to the 512th, whichever calls they are. What later ones answer is free, so
 * no test asks for it.
 */
public final class CallsTest {
    private static final int CALLS = 512;

    public static void main(String[] args) {
        steps();
        programs();
        rulesOfTheLargest();
        fullRuns();
        reading();
        refused();
        Checks.finish();
    }

    /** A run of a million steps that never ends. */
    private static void steps() {
        PolicyLoom loom = Checks.loom("GO 1; PUSH 1; LOAD 1; ADD; STORE 1; GO 0");
        loom.start(Checks.PLAIN, 0);
        for (int call = 8; call <= CALLS - 2; call++) {
            Checks.same("step", loom.step(2000), 2000);
        }
        int steps = 2000 * (CALLS - 9);
        Checks.same("call 511: rounds", loom.cell(1), steps / 6);
        Checks.same("call 512: where", loom.look(Checks.PLACE), steps % 6);
    }

    private static void programs() {
        PolicyLoom loom = new PolicyLoom();
        for (int call = 0; call < CALLS - 1; call++) {
            if (call % 25 == 24) {
                loom.clear();
            } else {
                Checks.same("code", loom.code(Checks.END, call), call % 25);
            }
        }
        Checks.same("call 512: code", loom.code(Checks.END, 0), 11);
    }

    private static void rulesOfTheLargest() {
        PolicyLoom loom = Checks.loom("GO 0" + "; ACT 7".repeat(23));
        loom.states(4);
        for (int call = 26; call < CALLS - 1; call += 2) {
            int turn = (call - 26) / 2;
            loom.rule(turn % 4, 7, turn, turn, 0);
            Checks.same("enforce", loom.enforce(), 47 + 23 * 16 * Math.min(turn + 1, 4));
        }
        Checks.same("call 512: the last rule's lowest", loom.enforced(1518 - 65 + 32 + 5, true), 242);
    }

    private static void fullRuns() {
        PolicyLoom loom = Situation.counting(Situation.COUNT);
        for (int call = 14; call < CALLS; call += 2) {
            loom.start(call / 2 % 3, 9);
            int steps = loom.step(2000);
            Checks.same("steps", steps, call / 2 % 3 == Checks.ENFORCED ? 487 + 61 * 16 + 30 * 4 : 487);
        }
        Checks.same("call 512: the last number", loom.act(59, true), 69);
    }

    private static void reading() {
        PolicyLoom loom = Situation.FULL_ENFORCED.make();
        for (int call = 16; call <= CALLS; call++) {
            Checks.same("look", loom.look(call % 5), new int[] {Checks.FULL, 39, 2, 1, 60}[call % 5]);
        }
    }

    private static void refused() {
        PolicyLoom loom = new PolicyLoom();
        for (int call = 1; call < CALLS; call++) {
            switch (call % 4) {
                case 0 -> Checks.badArgument("code", () -> loom.code(13, 0));
                case 1 -> Checks.badState("step", () -> loom.step(1));
                case 2 -> Checks.badState("start", () -> Checks.start(loom, 0, 0));
                default -> Checks.badIndex("act", () -> loom.act(0, true));
            }
        }
        Checks.same("call 512: code", loom.code(Checks.END, 0), 0);
    }
}
