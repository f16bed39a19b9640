import java.util.Arrays;
import java.util.function.IntToLongFunction;
import java.util.function.LongSupplier;

/** What the tests share: counting checks, telling the wrong ones, and writing programs short. */
final class Checks {
    static final int PUSH = 0;
    static final int DROP = 1;
    static final int ADD = 2;
    static final int SUBTRACT = 3;
    static final int LESS = 4;
    static final int LOAD = 5;
    static final int STORE = 6;
    static final int GO = 7;
    static final int IF = 8;
    static final int ACT = 9;
    static final int SWAP = 10;
    static final int DUPLICATE = 11;
    static final int END = 12;

    static final int PLAIN = 0;
    static final int ENFORCED = 1;
    static final int WATCHED = 2;

    static final int NO_RUN = 0;
    static final int GOES_ON = 1;
    static final int OVER = 2;
    static final int FULL = 3;
    static final int STOPPED = 4;

    static final int STATUS = 0;
    static final int PLACE = 1;
    static final int STACKED = 2;
    static final int STATE = 3;
    static final int DONE = 4;

    private static final String[] NAMES = {
        "PUSH", "DROP", "ADD", "SUBTRACT", "LESS", "LOAD", "STORE", "GO", "IF", "ACT", "SWAP", "DUPLICATE", "END"
    };

    private static int right = 0;
    private static int wrong = 0;

    private Checks() {
    }

    static void same(String what, long got, long due) {
        count(got == due, what + " answered " + got + ", due is " + due);
    }

    static void yes(String what, boolean got) {
        count(got, what + " answered false, due is true");
    }

    static void no(String what, boolean got) {
        count(!got, what + " answered true, due is false");
    }

    static void badState(String what, LongSupplier call) {
        fails(what, IllegalStateException.class, call);
    }

    static void badArgument(String what, LongSupplier call) {
        fails(what, IllegalArgumentException.class, call);
    }

    static void badIndex(String what, LongSupplier call) {
        fails(what, IndexOutOfBoundsException.class, call);
    }

    static void badArguments(String what, IntToLongFunction call, int... wrong) {
        for (int number : wrong) {
            badArgument(what + " " + number, () -> call.applyAsLong(number));
        }
    }

    static void badIndexes(String what, IntToLongFunction call, int... wrong) {
        for (int number : wrong) {
            badIndex(what + " " + number, () -> call.applyAsLong(number));
        }
    }

    /** The class must be just that one: a subclass would be an exception that the code never wrote. */
    private static void fails(String what, Class<? extends RuntimeException> due, LongSupplier call) {
        try {
            long got = call.getAsLong();
            count(false, what + " answered " + got + ", due is " + due.getSimpleName());
        } catch (RuntimeException e) {
            count(e.getClass() == due, what + " threw " + e + ", due is " + due.getSimpleName());
        }
    }

    private static void count(boolean holds, String otherwise) {
        if (holds) {
            right++;
        } else {
            wrong++;
            System.out.println("wrong: " + otherwise);
        }
    }

    /** Calls without an answer, so that they fit where an answer is asked for. */
    static long states(PolicyLoom loom, int s) {
        loom.states(s);
        return 0;
    }

    static long rule(PolicyLoom loom, int state, int act, int lowest, int highest, int then) {
        loom.rule(state, act, lowest, highest, then);
        return 0;
    }

    static long start(PolicyLoom loom, int how, int x) {
        loom.start(how, x);
        return 0;
    }

    /** A new object with a program: operation, k, operation, k, .. */
    static PolicyLoom loom(int... code) {
        PolicyLoom loom = new PolicyLoom();
        write(loom, code);
        return loom;
    }

    static void write(PolicyLoom loom, int... code) {
        for (int i = 0; i < code.length; i += 2) {
            loom.code(code[i], code[i + 1]);
        }
    }

    /** A new object with a program that is written as text: "PUSH 1; ACT 3; END". */
    static PolicyLoom loom(String text) {
        return loom(code(text));
    }

    /** The same instructions as numbers: operation, k, operation, k, ..; a k that is not written is 0. */
    static int[] code(String text) {
        String[] lines = text.split("; *");
        int[] code = new int[2 * lines.length];
        for (int i = 0; i < lines.length; i++) {
            String[] words = lines[i].split(" ");
            code[2 * i] = Arrays.asList(NAMES).indexOf(words[0]);
            code[2 * i + 1] = words.length > 1 ? Integer.parseInt(words[1]) : 0;
        }
        return code;
    }

    /** A new run with this number in cell 0, as far as 2000 steps go. */
    static void run(PolicyLoom loom, int how, int x) {
        loom.start(how, x);
        loom.step(2000);
    }

    static void looks(String what, PolicyLoom loom, int status, int place, int stacked, int state, int done) {
        same(what + ": status", loom.look(STATUS), status);
        same(what + ": place", loom.look(PLACE), place);
        same(what + ": stacked", loom.look(STACKED), stacked);
        same(what + ": state", loom.look(STATE), state);
        same(what + ": acts done", loom.look(DONE), done);
    }

    static void noRun(String what, PolicyLoom loom) {
        looks(what + ", no run", loom, NO_RUN, 0, 0, 0, 0);
        badState(what + ", no run: step", () -> loom.step(0));
        badIndex(what + ", no run: act", () -> loom.act(0, false));
        for (int k = 0; k < 8; k++) {
            same(what + ", no run: cell " + k, loom.cell(k), 0);
        }
    }

    static void listing(String what, PolicyLoom loom, int... due) {
        int size = loom.enforce();
        same(what + ": enforce", size, due.length / 2);
        for (int i = 0; i < due.length / 2 && i < size; i++) {
            same(what + ": operation " + i, loom.enforced(i, false), due[2 * i]);
            same(what + ": k " + i, loom.enforced(i, true), due[2 * i + 1]);
        }
    }

    static void finish() {
        System.out.println(right + " checks right, " + wrong + " wrong");
        if (wrong > 0 || right == 0) {
            System.exit(1);
        }
    }
}
