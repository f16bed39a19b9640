import java.util.ArrayList;
import java.util.List;
import java.util.function.ToLongFunction;

/** Terms: "Of several exceptions that hold the first one listed is thrown; what throws changes nothing." */
public final class RefusalTest {
    private static final Class<?> BAD_STATE = IllegalStateException.class;
    private static final Class<?> BAD_ARGUMENT = IllegalArgumentException.class;
    private static final Class<?> BAD_INDEX = IndexOutOfBoundsException.class;

    public static void main(String[] args) {
        firstListedOfCode();
        firstListedOfHeight();
        firstListedOfEnforced();
        firstListedOfStart();
        firstListedOfStep();
        argumentsWithoutARun();
        for (Situation situation : Situation.values()) {
            situationIsWhatItSays(situation);
            for (Refusal refusal : refusals(situation)) {
                changesNothing(situation, refusal);
            }
        }
        Checks.finish();
    }

    /** Promise 2: no operation goes ahead of there are 24. */
    private static void firstListedOfCode() {
        PolicyLoom loom = Checks.loom("END" + "; END".repeat(22));
        Checks.badArgument("23 and no operation", () -> loom.code(13, 0));
        Checks.same("the 24th", loom.code(12, 0), 23);
        Checks.badArgument("24 and no operation", () -> loom.code(13, 0));
        Checks.badArgument("24 and no operation", () -> loom.code(-1, 0));
        Checks.badIndex("24 and an operation", () -> loom.code(12, 0));
        Checks.badIndex("24 and an operation", () -> loom.code(0, 0));
    }

    /** Promise 7: not well formed goes ahead of no instruction. */
    private static void firstListedOfHeight() {
        PolicyLoom loom = Checks.loom("PUSH 1");
        Checks.badState("ill and no instruction", () -> loom.height(1));
        Checks.badState("ill and no instruction", () -> loom.height(-1));
        Checks.badState("ill and an instruction", () -> loom.height(0));
        loom.code(Checks.END, 0);
        Checks.badIndex("well and no instruction", () -> loom.height(2));
        Checks.same("well and an instruction", loom.height(0), 0);
    }

    /** Promise 9: not well formed goes ahead of no instruction. */
    private static void firstListedOfEnforced() {
        PolicyLoom loom = Checks.loom("PUSH 1");
        Checks.badState("ill and no instruction", () -> loom.enforced(1, false));
        Checks.badState("ill and no instruction", () -> loom.enforced(-1, true));
        Checks.badState("ill and an instruction", () -> loom.enforced(0, false));
        loom.code(Checks.END, 0);
        Checks.badIndex("well and no instruction", () -> loom.enforced(2, false));
        Checks.same("well and an instruction", loom.enforced(0, true), 1);
    }

    /** Promise 10: not well formed goes ahead of another how. */
    private static void firstListedOfStart() {
        PolicyLoom loom = Checks.loom("PUSH 1");
        Checks.badState("ill and another how", () -> Checks.start(loom, 3, 0));
        Checks.badState("ill and another how", () -> Checks.start(loom, -1, 0));
        Checks.badState("ill and a how", () -> Checks.start(loom, 0, 0));
        loom.code(Checks.END, 0);
        Checks.badArgument("well and another how", () -> Checks.start(loom, 3, 0));
        Checks.same("well and a how", Checks.start(loom, 0, 0), 0);
    }

    /** Promise 11: no run goes ahead of n is not 0 .. 2000. */
    private static void firstListedOfStep() {
        PolicyLoom loom = Checks.loom("END");
        Checks.badState("no run and another n", () -> loom.step(2001));
        Checks.badState("no run and another n", () -> loom.step(-1));
        Checks.badState("no run and an n", () -> loom.step(0));
        loom.start(Checks.PLAIN, 0);
        Checks.badArgument("a run and another n", () -> loom.step(2001));
        Checks.same("a run and an n", loom.step(0), 0);
    }

    /** Promises 12 and 14: that there is no run does not make another what or cell right. */
    private static void argumentsWithoutARun() {
        PolicyLoom loom = new PolicyLoom();
        Checks.badArguments("look", what -> loom.look(what), -1, 5);
        Checks.badIndexes("cell", k -> loom.cell(k), -1, 8);
        Checks.same("look 4", loom.look(4), 0);
        Checks.same("cell 7", loom.cell(7), 0);
    }

    private static void situationIsWhatItSays(Situation situation) {
        PolicyLoom loom = situation.make();
        Checks.same(situation + ": status", loom.look(Checks.STATUS), situation.status);
        Checks.same(situation + ": well", loom.well() ? 1 : 0, situation.well ? 1 : 0);
    }

    /** An object that refused a call, and a twin that was never asked, show the same then and later. */
    private static void changesNothing(Situation situation, Refusal refusal) {
        String what = situation + ": " + refusal.what;
        PolicyLoom loom = situation.make();
        PolicyLoom twin = situation.make();
        Checks.yes(what + " is refused rightly", refusal.isRight(loom));
        Checks.yes(what + " changes nothing", Situation.picture(loom).equals(Situation.picture(twin)));
        Checks.yes(what + " changes nothing of what comes", later(loom).equals(later(twin)));
    }

    private static List<String> later(PolicyLoom loom) {
        List<String> seen = new ArrayList<>();
        seen.add("step " + Situation.answer(() -> loom.step(2000)));
        seen.addAll(Situation.pictureOfRun(loom));
        seen.add("code " + Situation.answer(() -> loom.code(Checks.END, 0)));
        seen.add("well " + loom.well());
        return seen;
    }

    private static List<Refusal> refusals(Situation situation) {
        List<Refusal> all = new ArrayList<>();
        PolicyLoom like = situation.make();
        programRefusals(all, situation);
        policyRefusals(all, situation.states());
        wellFormedRefusals(all, situation, situation.well ? like.enforce() : 0);
        runRefusals(all, situation, like.look(Checks.DONE));
        return all;
    }

    private static void programRefusals(List<Refusal> all, Situation situation) {
        add(all, "code(-1, 0)", BAD_ARGUMENT, loom -> loom.code(-1, 0));
        add(all, "code(13, 0)", BAD_ARGUMENT, loom -> loom.code(13, 0));
        if (situation.instructions() == 24) {
            add(all, "code(0, 5)", BAD_INDEX, loom -> loom.code(0, 5));
            add(all, "code(12, 0)", BAD_INDEX, loom -> loom.code(12, 0));
        }
    }

    private static void policyRefusals(List<Refusal> all, int states) {
        add(all, "states(0)", BAD_ARGUMENT, loom -> Checks.states(loom, 0));
        add(all, "states(5)", BAD_ARGUMENT, loom -> Checks.states(loom, 5));
        for (int state : new int[] {-1, states}) {
            add(all, "rule from " + state, BAD_ARGUMENT, loom -> Checks.rule(loom, state, 3, 0, 9, 0));
            add(all, "rule then " + state, BAD_ARGUMENT, loom -> Checks.rule(loom, 0, 3, 0, 9, state));
        }
        add(all, "rule for act -1", BAD_ARGUMENT, loom -> Checks.rule(loom, 0, -1, 0, 9, 0));
        add(all, "rule for act 8", BAD_ARGUMENT, loom -> Checks.rule(loom, 0, 8, 0, 9, 0));
        add(all, "rule 1 .. 0", BAD_ARGUMENT, loom -> Checks.rule(loom, 0, 3, 1, 0, 0));
    }

    private static void wellFormedRefusals(List<Refusal> all, Situation situation, int enforced) {
        Class<?> badIndex = situation.well ? BAD_INDEX : BAD_STATE;
        Class<?> badHow = situation.well ? BAD_ARGUMENT : BAD_STATE;
        for (int i : new int[] {-1, situation.instructions()}) {
            add(all, "height(" + i + ")", badIndex, loom -> loom.height(i));
        }
        for (int i : new int[] {-1, enforced}) {
            add(all, "enforced(" + i + ", false)", badIndex, loom -> loom.enforced(i, false));
        }
        for (int how : new int[] {-1, 3}) {
            add(all, "start(" + how + ", 5)", badHow, loom -> Checks.start(loom, how, 5));
        }
        if (!situation.well) {
            add(all, "height(0)", BAD_STATE, loom -> loom.height(0));
            add(all, "enforce()", BAD_STATE, loom -> loom.enforce());
            add(all, "enforced(0, true)", BAD_STATE, loom -> loom.enforced(0, true));
            add(all, "start(2, 5)", BAD_STATE, loom -> Checks.start(loom, 2, 5));
        }
    }

    private static void runRefusals(List<Refusal> all, Situation situation, int done) {
        Class<?> badSteps = situation.runs() ? BAD_ARGUMENT : BAD_STATE;
        for (int n : new int[] {-1, 2001}) {
            add(all, "step(" + n + ")", badSteps, loom -> loom.step(n));
        }
        if (!situation.runs()) {
            add(all, "step(1)", BAD_STATE, loom -> loom.step(1));
        }
        for (int what : new int[] {-1, 5}) {
            add(all, "look(" + what + ")", BAD_ARGUMENT, loom -> loom.look(what));
        }
        for (int i : new int[] {-1, done}) {
            add(all, "act(" + i + ", true)", BAD_INDEX, loom -> loom.act(i, true));
        }
        for (int k : new int[] {-1, 8}) {
            add(all, "cell(" + k + ")", BAD_INDEX, loom -> loom.cell(k));
        }
    }

    private static void add(List<Refusal> all, String what, Class<?> due, ToLongFunction<PolicyLoom> call) {
        all.add(new Refusal(what, due, call));
    }

    private record Refusal(String what, Class<?> due, ToLongFunction<PolicyLoom> call) {
        boolean isRight(PolicyLoom loom) {
            return Situation.answer(() -> call.applyAsLong(loom)).equals(due.getSimpleName());
        }
    }
}
