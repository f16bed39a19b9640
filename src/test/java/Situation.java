import java.util.ArrayList;
import java.util.List;
import java.util.function.LongSupplier;

/** Objects in every state that the document tells apart; make() makes one anew. */
enum Situation {
    NEW("", false, -1, 0, 0, Checks.NO_RUN),
    ILL("PUSH 1; ACT 3", false, -1, 0, 0, Checks.NO_RUN),
    ILL_OF_24("PUSH 1" + "; END".repeat(22) + "; LOAD 7", false, -1, 0, 0, Checks.NO_RUN),
    WELL(Situation.COUNT, true, -1, 0, 0, Checks.NO_RUN),
    BEGUN_PLAIN(Situation.COUNT, true, Checks.PLAIN, -9, 0, Checks.GOES_ON),
    BEGUN_ENFORCED(Situation.COUNT, true, Checks.ENFORCED, -9, 0, Checks.GOES_ON),
    BEGUN_WATCHED(Situation.COUNT, true, Checks.WATCHED, -9, 0, Checks.GOES_ON),
    ACTING_PLAIN(Situation.COUNT, true, Checks.PLAIN, -9, 30, Checks.GOES_ON),
    ACTING_ENFORCED(Situation.COUNT, true, Checks.ENFORCED, -9, 90, Checks.GOES_ON),
    ACTING_WATCHED(Situation.COUNT, true, Checks.WATCHED, -9, 30, Checks.GOES_ON),
    ACTING_OF_24(Situation.COUNT + "; END".repeat(14), true, Checks.WATCHED, -9, 30, Checks.GOES_ON),
    OVER_PLAIN(Situation.COUNT, true, Checks.PLAIN, -3, 2000, Checks.OVER),
    OVER_ENFORCED(Situation.COUNT, true, Checks.ENFORCED, -3, 2000, Checks.OVER),
    OVER_WATCHED(Situation.COUNT, true, Checks.WATCHED, -3, 2000, Checks.OVER),
    OVER_BY_STOP(Situation.COUNT, true, Checks.ENFORCED, 67, 2000, Checks.OVER),
    FULL_PLAIN(Situation.COUNT, true, Checks.PLAIN, 9, 2000, Checks.FULL),
    FULL_ENFORCED(Situation.COUNT, true, Checks.ENFORCED, 9, 2000, Checks.FULL),
    FULL_WATCHED(Situation.COUNT, true, Checks.WATCHED, 9, 2000, Checks.FULL),
    STOPPED(Situation.COUNT, true, Checks.WATCHED, 67, 2000, Checks.STOPPED);

    /**
     * Counts cell 0 up, does act 3 with each number behind x, and ends behind 0: eight steps a round,
     * one ahead of them.
     */
    static final String COUNT = "PUSH 40; PUSH 1; LOAD 0; ADD; DUPLICATE; STORE 0; ACT 3; LOAD 0; IF 1; END";
    static final int LOWEST = -100;
    static final int HIGHEST = 70;

    final String text;
    final boolean well;
    final int how;
    final int x;
    final int steps;
    final int status;

    Situation(String text, boolean well, int how, int x, int steps, int status) {
        this.text = text;
        this.well = well;
        this.how = how;
        this.x = x;
        this.steps = steps;
        this.status = status;
    }

    boolean runs() {
        return how >= 0;
    }

    int instructions() {
        return text.isEmpty() ? 0 : text.split(";").length;
    }

    int states() {
        return this == NEW ? 1 : 2;
    }

    PolicyLoom make() {
        if (this == NEW) {
            return new PolicyLoom();
        }
        PolicyLoom loom = counting(text);
        if (runs()) {
            loom.start(how, x);
            loom.step(steps);
        }
        return loom;
    }

    /** With the policy that allows act 3 up to 70, and goes to and fro between two states. */
    static PolicyLoom counting(String text) {
        PolicyLoom loom = Checks.loom(text);
        loom.states(2);
        loom.rule(0, 3, LOWEST, HIGHEST, 1);
        loom.rule(1, 3, LOWEST, HIGHEST, 0);
        return loom;
    }

    /** All that an object shows. */
    static List<String> picture(PolicyLoom loom) {
        List<String> seen = new ArrayList<>();
        seen.add("well " + loom.well());
        seen.add("enforce " + answer(() -> loom.enforce()));
        for (int i = 0; i == 0 || !seen.get(seen.size() - 1).contains("Exception"); i++) {
            int place = i;
            seen.add("height " + i + " " + answer(() -> loom.height(place)));
        }
        for (int i = 0; i == 0 || !seen.get(seen.size() - 1).contains("Exception"); i++) {
            int place = i;
            seen.add("k " + i + " " + answer(() -> loom.enforced(place, true)));
            seen.add("operation " + i + " " + answer(() -> loom.enforced(place, false)));
        }
        seen.addAll(pictureOfRun(loom));
        return seen;
    }

    static List<String> pictureOfRun(PolicyLoom loom) {
        List<String> seen = new ArrayList<>();
        for (int what = 0; what < 5; what++) {
            seen.add("look " + what + " " + loom.look(what));
        }
        for (int k = 0; k < 8; k++) {
            seen.add("cell " + k + " " + loom.cell(k));
        }
        for (int i = 0; i == 0 || !seen.get(seen.size() - 1).contains("Exception"); i++) {
            int place = i;
            seen.add("number " + i + " " + answer(() -> loom.act(place, true)));
            seen.add("act " + i + " " + answer(() -> loom.act(place, false)));
        }
        return seen;
    }

    static String answer(LongSupplier call) {
        try {
            return Long.toString(call.getAsLong());
        } catch (RuntimeException e) {
            return e.getClass().getSimpleName();
        }
    }
}
