import java.util.ArrayDeque;
import java.util.ArrayList;
import java.util.Deque;
import java.util.HashMap;
import java.util.HashSet;
import java.util.List;
import java.util.Map;
import java.util.Set;
import java.util.function.LongSupplier;

/**
 * Many rows of calls, each answered by PolicyLoom and by a model that follows the document word by
 * word in another way of writing; and the sense of it all: enforced and watched runs do the same.
 */
public final class ModelTest {
    private static final int CALLS = 512;
    private static final int OBJECTS = 3000;
    private static final String[] NAMES = {
        "code", "clear", "states", "rule", "well", "height", "enforce", "enforced", "start", "step", "look", "act",
        "cell"
    };

    public static void main(String[] args) {
        for (int seed = 1; seed <= OBJECTS; seed++) {
            if (!rowOfCalls(seed)) {
                break;
            }
        }
        enforcedDoesWhatWatchedDoes();
        Checks.finish();
    }

    private static boolean rowOfCalls(int seed) {
        Dice dice = new Dice(seed);
        PolicyLoom loom = new PolicyLoom();
        Model model = new Model();
        int calls = 0;
        while (calls < CALLS) {
            List<int[]> some = someCalls(dice, model);
            for (int i = 0; i < some.size() && calls < CALLS; i++) {
                int[] call = some.get(i);
                String due = answer(() -> model.call(call));
                String got = answer(() -> call(loom, call));
                calls++;
                if (!got.equals(due)) {
                    Checks.yes("row " + seed + ", call " + calls + ": " + written(call) + " answered " + got
                            + ", due is " + due + "; this", false);
                    return false;
                }
            }
        }
        Checks.yes("row " + seed, true);
        return true;
    }

    private static String written(int[] call) {
        StringBuilder text = new StringBuilder(NAMES[call[0]]);
        for (int i = 1; i < call.length; i++) {
            text.append(' ').append(call[i]);
        }
        return text.toString();
    }

    private static String answer(LongSupplier call) {
        try {
            return Long.toString(call.getAsLong());
        } catch (RuntimeException e) {
            return "throws." + e.getClass().getSimpleName();
        }
    }

    private static long call(PolicyLoom loom, int[] c) {
        switch (NAMES[c[0]]) {
            case "code": return loom.code(c[1], c[2]);
            case "clear": loom.clear(); return 0;
            case "states": loom.states(c[1]); return 0;
            case "rule": loom.rule(c[1], c[2], c[3], c[4], c[5]); return 0;
            case "well": return loom.well() ? 1 : 0;
            case "height": return loom.height(c[1]);
            case "enforce": return loom.enforce();
            case "enforced": return loom.enforced(c[1], c[2] == 1);
            case "start": loom.start(c[1], c[2]); return 0;
            case "step": return loom.step(c[1]);
            case "look": return loom.look(c[1]);
            case "act": return loom.act(c[1], c[2] == 1);
            default: return loom.cell(c[1]);
        }
    }

    private static List<int[]> someCalls(Dice dice, Model model) {
        List<int[]> calls = new ArrayList<>();
        int kind = dice.below(20);
        if (kind == 0) {
            calls.add(new int[] {1});
            for (int[] line : program(dice)) {
                calls.add(new int[] {0, line[0], line[1]});
            }
        } else if (kind == 1) {
            automaton(dice, calls);
        } else if (kind <= 4) {
            calls.add(new int[] {8, dice.below(3), dice.number()});
        } else if (kind <= 7) {
            calls.add(new int[] {9, dice.below(3) == 0 ? 2000 : dice.below(30)});
            lookAtAll(model, dice, calls);
        } else {
            calls.add(anyCall(dice));
        }
        return calls;
    }

    private static void automaton(Dice dice, List<int[]> calls) {
        int states = 1 + dice.below(4);
        calls.add(new int[] {2, states});
        // Without wide rules for all acts hardly a loop would be allowed to fill the trace.
        boolean wide = dice.below(3) == 0;
        int rules = wide ? states * 8 : dice.below(1 + states * 8);
        for (int i = 0; i < rules; i++) {
            int lowest = wide && dice.below(8) > 0 ? Integer.MIN_VALUE : dice.number();
            int highest = wide && dice.below(8) > 0 ? Integer.MAX_VALUE : Math.max(lowest, dice.number());
            int state = wide ? i / 8 : dice.below(states);
            int act = wide ? i % 8 : dice.below(8);
            calls.add(new int[] {3, state, act, lowest, highest, dice.below(states)});
        }
    }

    private static void lookAtAll(Model model, Dice dice, List<int[]> calls) {
        for (int what = 0; what < 5; what++) {
            calls.add(new int[] {10, what});
        }
        for (int k = 0; k < 8; k++) {
            calls.add(new int[] {12, k});
        }
        int done = Math.max(1, model.trace.size());
        calls.add(new int[] {11, done, 0});
        calls.add(new int[] {11, done - 1, 1});
        calls.add(new int[] {11, dice.below(done), 0});
        calls.add(new int[] {11, dice.below(done), 1});
    }

    private static int[] anyCall(Dice dice) {
        int name = dice.below(13);
        switch (NAMES[name]) {
            case "code":
                return dice.below(3) > 0 ? new int[] {4} : new int[] {name, dice.around(13), dice.around(9)};
            case "clear":
                return dice.below(3) > 0 ? new int[] {6} : new int[] {name};
            case "states":
                return dice.below(3) > 0 ? new int[] {6} : new int[] {name, dice.around(5)};
            case "rule":
                return new int[] {name, dice.around(4), dice.around(8), dice.number(), dice.number(), dice.around(4)};
            case "height":
                return new int[] {name, dice.around(24)};
            case "enforced":
                return new int[] {name, dice.around(dice.below(2) == 0 ? 60 : 1520), dice.below(2)};
            case "start":
                return new int[] {name, dice.around(3), dice.number()};
            case "step":
                return new int[] {name, dice.around(2001)};
            case "look":
                return new int[] {name, dice.around(5)};
            case "act":
                return new int[] {name, dice.around(60), dice.below(2)};
            case "cell":
                return new int[] {name, dice.around(8)};
            default:
                return new int[] {name};
        }
    }

    /** A program that is mostly well formed: the height is counted, and ways go where it is the same. */
    private static List<int[]> program(Dice dice) {
        int size = 1 + dice.below(24);
        int spoilt = dice.below(4) == 0 ? dice.below(size) : -1;
        int[] operations = new int[size];
        int[] heights = new int[size + 1];
        for (int i = 0; i < size; i++) {
            operations[i] = i == size - 1 ? Checks.END : fitting(dice, heights[i]);
            heights[i + 1] = heights[i] - Model.TAKEN[operations[i]] + Model.GIVEN[operations[i]];
        }
        List<int[]> lines = new ArrayList<>();
        for (int i = 0; i < size; i++) {
            if (i == spoilt) {
                lines.add(new int[] {dice.below(13), dice.around(9)});
            } else {
                lines.add(new int[] {operations[i], fittingNumber(dice, operations[i], heights, i, size)});
            }
        }
        return lines;
    }

    private static int fitting(Dice dice, int height) {
        for (int tries = 0; tries < 1000; tries++) {
            int operation = dice.below(4) == 0 ? Checks.ACT : dice.below(13);
            int after = height - Model.TAKEN[operation] + Model.GIVEN[operation];
            boolean rare = operation == Checks.END || operation == Checks.GO;
            if (height >= Model.TAKEN[operation] && after <= 12 && (!rare || dice.below(4) == 0)) {
                return operation;
            }
        }
        return Checks.END;
    }

    private static int fittingNumber(Dice dice, int operation, int[] heights, int i, int size) {
        if (operation == Checks.GO || operation == Checks.IF) {
            List<Integer> places = new ArrayList<>();
            for (int k = 0; k < size; k++) {
                if (heights[k] == heights[i + 1]) {
                    places.add(k);
                }
            }
            return places.isEmpty() ? 0 : places.get(dice.below(places.size()));
        }
        if (operation == Checks.LOAD || operation == Checks.STORE) {
            return dice.below(2) == 0 ? 0 : dice.below(7);
        }
        return operation == Checks.ACT ? dice.below(dice.below(2) == 0 ? 2 : 8) : dice.number();
    }

    private static void enforcedDoesWhatWatchedDoes() {
        Dice dice = new Dice(77);
        int stopped = 0;
        int full = 0;
        for (int round = 0; round < 20000; round++) {
            PolicyLoom loom = new PolicyLoom();
            for (int[] line : program(dice)) {
                loom.code(line[0], line[1]);
            }
            List<int[]> policy = new ArrayList<>();
            automaton(dice, policy);
            for (int[] c : policy) {
                call(loom, c);
            }
            if (!loom.well()) {
                continue;
            }
            int x = dice.number();
            List<Integer> watched = endOf(loom, Checks.WATCHED, x, 8);
            int status = loom.look(Checks.STATUS);
            // The tests ahead of 61 acts take fewer than 4000 steps.
            List<Integer> enforced = endOf(loom, Checks.ENFORCED, x, 10);
            if (status == Checks.GOES_ON) {
                continue;
            }
            stopped += status == Checks.STOPPED ? 1 : 0;
            full += status == Checks.FULL ? 1 : 0;
            int due = status == Checks.STOPPED ? Checks.OVER : status;
            Checks.same("enforced as watched: status", loom.look(Checks.STATUS), due);
            Checks.yes("enforced as watched: " + enforced + " and " + watched, enforced.equals(watched));
        }
        Checks.yes("some of them were stopped: " + stopped, stopped > 100);
        Checks.yes("some of them were full: " + full, full > 100);
    }

    private static List<Integer> endOf(PolicyLoom loom, int how, int x, int calls) {
        loom.start(how, x);
        for (int i = 0; i < calls; i++) {
            loom.step(2000);
        }
        List<Integer> seen = new ArrayList<>();
        seen.add(loom.look(Checks.STACKED));
        int done = loom.look(Checks.DONE);
        for (int i = 0; i < done; i++) {
            seen.add(loom.act(i, false));
            seen.add(loom.act(i, true));
        }
        for (int k = 0; k < 7; k++) {
            seen.add(loom.cell(k));
        }
        return seen;
    }

    /** Numbers that look thrown, the same ones at each run of the test. */
    private static final class Dice {
        private static final int[] EDGES = {
            Integer.MIN_VALUE, Integer.MIN_VALUE + 1, Integer.MAX_VALUE, Integer.MAX_VALUE - 1
        };
        private long seed;

        Dice(long seed) {
            this.seed = seed * 7919;
            below(2);
        }

        int below(int bound) {
            seed = seed * 6364136223846793005L + 1442695040888963407L;
            return (int) ((seed >>> 33) % bound);
        }

        int number() {
            int kind = below(12);
            return kind == 0 ? EDGES[below(4)] : kind < 6 ? below(4) : below(25) - 8;
        }

        /** Mostly 0 .. bound - 1, at times just beside that or far away. */
        int around(int bound) {
            int kind = below(30);
            return kind == 0 ? EDGES[below(4)] : kind == 1 ? -1 : kind == 2 ? bound : below(bound);
        }
    }

    /** The document, written out without a thought for room or speed. */
    private static final class Model {
        static final int[] TAKEN = {0, 1, 2, 2, 2, 0, 1, 0, 1, 1, 2, 1, 0};
        static final int[] GIVEN = {1, 0, 1, 1, 1, 1, 0, 0, 0, 0, 2, 2, 0};

        private final List<int[]> program = new ArrayList<>();
        private final Map<List<Integer>, int[]> rules = new HashMap<>();
        private int states = 1;

        private boolean running = false;
        private int how;
        private int end;
        private int place;
        private int state;
        private List<int[]> text = new ArrayList<>();
        private final Deque<Integer> stack = new ArrayDeque<>();
        private final int[] cells = new int[8];
        final List<int[]> trace = new ArrayList<>();

        long call(int[] c) {
            switch (NAMES[c[0]]) {
                case "code": return code(c[1], c[2]);
                case "clear": program.clear(); running = false; return 0;
                case "states": return states(c[1]);
                case "rule": return rule(c);
                case "well": return heights() == null ? 0 : 1;
                case "height": return height(c[1]);
                case "enforce": return wellFormed().size();
                case "enforced": return enforced(c[1], c[2]);
                case "start": return start(c[1], c[2]);
                case "step": return step(c[1]);
                case "look": return look(c[1]);
                case "act": return act(c[1], c[2]);
                default: return cell(c[1]);
            }
        }

        private long code(int operation, int k) {
            argument(operation >= 0 && operation <= 12);
            index(program.size() < 24);
            program.add(new int[] {operation, k});
            running = false;
            return program.size() - 1;
        }

        private long states(int s) {
            argument(s >= 1 && s <= 4);
            states = s;
            rules.clear();
            running = false;
            return 0;
        }

        private long rule(int[] c) {
            argument(c[1] >= 0 && c[1] < states && c[5] >= 0 && c[5] < states);
            argument(c[2] >= 0 && c[2] < 8 && c[4] >= c[3]);
            rules.put(List.of(c[1], c[2]), new int[] {c[3], c[4], c[5]});
            running = false;
            return 0;
        }

        private long height(int i) {
            wellFormed();
            index(i >= 0 && i < program.size());
            return heights()[i];
        }

        private long enforced(int i, int second) {
            List<int[]> listing = wellFormed();
            index(i >= 0 && i < listing.size());
            return listing.get(i)[second];
        }

        /** Null if the program is not well formed: all pairs of instruction and height are walked. */
        private int[] heights() {
            if (program.isEmpty() || !numbersAreWell()) {
                return null;
            }
            Set<List<Integer>> seen = new HashSet<>();
            if (!walk(0, 0, seen)) {
                return null;
            }
            int[] heights = new int[program.size()];
            java.util.Arrays.fill(heights, -1);
            for (List<Integer> pair : seen) {
                if (heights[pair.get(0)] != -1) {
                    return null;
                }
                heights[pair.get(0)] = pair.get(1);
            }
            return heights;
        }

        private boolean numbersAreWell() {
            for (int[] line : program) {
                int most = Integer.MAX_VALUE;
                if (line[0] == Checks.LOAD || line[0] == Checks.STORE) {
                    most = 6;
                } else if (line[0] == Checks.ACT) {
                    most = 7;
                } else if (line[0] == Checks.GO || line[0] == Checks.IF) {
                    most = program.size() - 1;
                } else {
                    continue;
                }
                if (line[1] < 0 || line[1] > most) {
                    return false;
                }
            }
            return true;
        }

        private boolean walk(int i, int height, Set<List<Integer>> seen) {
            if (i >= program.size()) {
                return false;
            }
            if (!seen.add(List.of(i, height))) {
                return true;
            }
            int operation = program.get(i)[0];
            int after = height - TAKEN[operation] + GIVEN[operation];
            if (height < TAKEN[operation] || after > 12) {
                return false;
            }
            switch (operation) {
                case Checks.END: return true;
                case Checks.GO: return walk(program.get(i)[1], after, seen);
                case Checks.IF: return walk(program.get(i)[1], after, seen) && walk(i + 1, after, seen);
                default: return walk(i + 1, after, seen);
            }
        }

        /** The enforced program, written with names for places, which are then looked up. */
        private List<int[]> wellFormed() {
            state(heights() != null);
            List<Object[]> lines = new ArrayList<>();
            Map<String, Integer> names = new HashMap<>();
            for (int i = 0; i < program.size(); i++) {
                int operation = program.get(i)[0];
                int k = program.get(i)[1];
                names.put("first " + i, lines.size());
                if (operation == Checks.ACT) {
                    writeTests(i, k, lines, names);
                }
                boolean way = operation == Checks.GO || operation == Checks.IF;
                lines.add(new Object[] {operation, way ? "first " + k : (Object) k});
            }
            List<int[]> listing = new ArrayList<>();
            for (Object[] line : lines) {
                int k = line[1] instanceof String ? names.get(line[1]) : (Integer) line[1];
                listing.add(new int[] {(Integer) line[0], k});
            }
            return listing;
        }

        private void writeTests(int i, int act, List<Object[]> lines, Map<String, Integer> names) {
            String stop = "stop " + i;
            int tests = 0;
            for (int s = 0; s < states; s++) {
                int[] rule = rules.get(List.of(s, act));
                if (rule == null) {
                    continue;
                }
                names.put("test " + i + " " + tests, lines.size());
                tests++;
                Object[][] test = {
                    {Checks.LOAD, 7}, {Checks.PUSH, s}, {Checks.SUBTRACT, 0}, {Checks.IF, "test " + i + " " + tests},
                    {Checks.DUPLICATE, 0}, {Checks.PUSH, rule[0]}, {Checks.LESS, 0}, {Checks.IF, stop},
                    {Checks.DUPLICATE, 0}, {Checks.PUSH, rule[1]}, {Checks.SWAP, 0}, {Checks.LESS, 0},
                    {Checks.IF, stop}, {Checks.PUSH, rule[2]}, {Checks.STORE, 7}, {Checks.GO, "act " + i}
                };
                lines.addAll(List.of(test));
            }
            names.put("test " + i + " " + tests, lines.size());
            names.put(stop, lines.size());
            lines.add(new Object[] {Checks.END, 0});
            names.put("act " + i, lines.size());
        }

        private long start(int kind, int x) {
            List<int[]> listing = wellFormed();
            argument(kind >= 0 && kind <= 2);
            running = true;
            how = kind;
            end = Checks.GOES_ON;
            place = 0;
            state = 0;
            text = kind == Checks.ENFORCED ? listing : program;
            stack.clear();
            trace.clear();
            java.util.Arrays.fill(cells, 0);
            cells[0] = x;
            return 0;
        }

        private long step(int n) {
            state(running);
            argument(n >= 0 && n <= 2000);
            int steps = 0;
            while (steps < n && end == Checks.GOES_ON) {
                one(text.get(place)[0], text.get(place)[1]);
                steps++;
            }
            return steps;
        }

        private void one(int operation, int k) {
            int next = place + 1;
            switch (operation) {
                case Checks.PUSH -> stack.push(k);
                case Checks.DROP -> stack.pop();
                case Checks.ADD -> stack.push(stack.pop() + stack.pop());
                case Checks.SUBTRACT -> stack.push(-stack.pop() + stack.pop());
                case Checks.LESS -> stack.push(stack.pop() > stack.pop() ? 1 : 0);
                case Checks.LOAD -> stack.push(cells[k]);
                case Checks.STORE -> cells[k] = stack.pop();
                case Checks.GO -> next = k;
                case Checks.IF -> next = stack.pop() == 0 ? next : k;
                case Checks.ACT -> tryAct(k);
                case Checks.SWAP -> {
                    int top = stack.pop();
                    int below = stack.pop();
                    stack.push(top);
                    stack.push(below);
                }
                case Checks.DUPLICATE -> stack.push(stack.peek());
                default -> end = Checks.OVER;
            }
            place = end == Checks.GOES_ON ? next : place;
        }

        private void tryAct(int act) {
            int[] rule = rules.get(List.of(state, act));
            int number = stack.peek();
            if (how == Checks.WATCHED && (rule == null || number < rule[0] || number > rule[1])) {
                end = Checks.STOPPED;
            } else if (trace.size() == 60) {
                end = Checks.FULL;
            } else {
                state = how == Checks.WATCHED ? rule[2] : 0;
                trace.add(new int[] {act, stack.pop()});
            }
        }

        private long look(int what) {
            argument(what >= 0 && what <= 4);
            int[] seen = {end, place, stack.size(), how == Checks.ENFORCED ? cells[7] : state, trace.size()};
            return running ? seen[what] : 0;
        }

        private long act(int i, int number) {
            index(running && i >= 0 && i < trace.size());
            return trace.get(i)[number];
        }

        private long cell(int k) {
            index(k >= 0 && k < 8);
            return running ? cells[k] : 0;
        }

        private static void argument(boolean holds) {
            if (!holds) {
                throw new IllegalArgumentException();
            }
        }

        private static void state(boolean holds) {
            if (!holds) {
                throw new IllegalStateException();
            }
        }

        private static void index(boolean holds) {
            if (!holds) {
                throw new IndexOutOfBoundsException();
            }
        }
    }
}
