/**
 * Makes small programs keep to a policy: an automaton says which rows of acts are allowed, and a
 * program is rewritten so that it ends ahead of an act that would not be allowed. Programs,
 * rewritten ones, and programs with the automaton beside them can be run and compared.
 */
public final class PolicyLoom {

    private static final int PUSH = 0;
    private static final int DROP = 1;
    private static final int ADD = 2;
    private static final int SUBTRACT = 3;
    private static final int LESS = 4;
    private static final int LOAD = 5;
    private static final int STORE = 6;
    private static final int GO = 7;
    private static final int IF = 8;
    private static final int ACT = 9;
    private static final int SWAP = 10;
    private static final int DUPLICATE = 11;
    private static final int END = 12;

    private static final int MOST_INSTRUCTIONS = 24;
    private static final int MOST_STATES = 4;
    private static final int ACTS = 8;
    private static final int CELLS = 8;
    private static final int STATE_CELL = 7;
    private static final int MOST_HEIGHT = 12;
    private static final int MOST_TRACE = 60;
    private static final int MOST_STEPS = 2000;
    private static final int TEST_LENGTH = 16;
    private static final int MOST_ENFORCED = MOST_INSTRUCTIONS * (MOST_STATES * TEST_LENGTH + 2);

    private static final int ENFORCED = 1;
    private static final int WATCHED = 2;

    private static final int NO_RUN = 0;
    private static final int GOES_ON = 1;
    private static final int OVER = 2;
    private static final int FULL = 3;
    private static final int STOPPED = 4;

    private final Listing program;
    private final Automaton automaton;
    private final Heights heights;
    private final Weaver weaver;
    private final Run run;
    private boolean examined;
    private boolean woven;

    public PolicyLoom() {
        program = new Listing(MOST_INSTRUCTIONS);
        automaton = new Automaton();
        heights = new Heights();
        weaver = new Weaver();
        run = new Run();
        examined = false;
        woven = false;
    }

    public int code(int operation, int k)
            throws IllegalArgumentException, IndexOutOfBoundsException {
        if (operation < PUSH || operation > END) {
            throw new IllegalArgumentException("no operation");
        }
        if (program.size >= MOST_INSTRUCTIONS) {
            throw new IndexOutOfBoundsException("the program has all its instructions");
        }
        forgetWhatHungOnProgram();
        program.append(operation, k);
        return program.size - 1;
    }

    public void clear() {
        forgetWhatHungOnProgram();
        program.size = 0;
    }

    public void states(int s) throws IllegalArgumentException {
        if (s < 1 || s > MOST_STATES) {
            throw new IllegalArgumentException("no such number of states");
        }
        forgetWhatHungOnAutomaton();
        automaton.reset(s);
    }

    public void rule(int state, int act, int lowest, int highest, int then)
            throws IllegalArgumentException {
        if (!automaton.hasState(state) || !automaton.hasState(then)) {
            throw new IllegalArgumentException("no state");
        }
        if (act < 0 || act >= ACTS) {
            throw new IllegalArgumentException("no act");
        }
        if (highest < lowest) {
            throw new IllegalArgumentException("highest is below lowest");
        }
        forgetWhatHungOnAutomaton();
        automaton.setRule(Automaton.place(state, act), lowest, highest, then);
    }

    public boolean well() {
        return isWellFormed();
    }

    public int height(int i) throws IllegalStateException, IndexOutOfBoundsException {
        requireWellFormed();
        if (i < 0 || i >= program.size) {
            throw new IndexOutOfBoundsException("no instruction");
        }
        return heights.found[i];
    }

    public int enforce() throws IllegalStateException {
        requireWellFormed();
        return wovenListing().size;
    }

    public int enforced(int i, boolean second)
            throws IllegalStateException, IndexOutOfBoundsException {
        requireWellFormed();
        Listing listing = wovenListing();
        if (i < 0 || i >= listing.size) {
            throw new IndexOutOfBoundsException("no instruction");
        }
        return second ? listing.numbers[i] : listing.operations[i];
    }

    public void start(int how, int x) throws IllegalStateException, IllegalArgumentException {
        requireWellFormed();
        if (how < 0 || how > WATCHED) {
            throw new IllegalArgumentException("no such run");
        }
        run.begin(how, x);
    }

    public int step(int n) throws IllegalStateException, IllegalArgumentException {
        if (run.status == NO_RUN) {
            throw new IllegalStateException("no run");
        }
        if (n < 0 || n > MOST_STEPS) {
            throw new IllegalArgumentException("no such number of steps");
        }
        Listing listing = run.how == ENFORCED ? wovenListing() : program;
        for (int done = 0; done < n; done++) {
            if (run.status != GOES_ON) {
                return done;
            }
            run.advance(listing, automaton);
        }
        return n;
    }

    public int look(int what) throws IllegalArgumentException {
        if (what < 0 || what > 4) {
            throw new IllegalArgumentException("nothing to look at");
        }
        if (run.status == NO_RUN) {
            return 0;
        }
        switch (what) {
            case 0:
                return run.status;
            case 1:
                return run.place;
            case 2:
                return run.stacked;
            case 3:
                return run.policyState();
            default:
                return run.done;
        }
    }

    public int act(int i, boolean number) throws IndexOutOfBoundsException {
        if (run.status == NO_RUN || i < 0 || i >= run.done) {
            throw new IndexOutOfBoundsException("no such act was done");
        }
        return number ? run.traceNumbers[i] : run.traceActs[i];
    }

    public int cell(int k) throws IndexOutOfBoundsException {
        if (k < 0 || k >= CELLS) {
            throw new IndexOutOfBoundsException("no cell");
        }
        return run.status == NO_RUN ? 0 : run.cells[k];
    }

    private void forgetWhatHungOnProgram() {
        examined = false;
        forgetWhatHungOnAutomaton();
    }

    private void forgetWhatHungOnAutomaton() {
        woven = false;
        run.status = NO_RUN;
    }

    private boolean isWellFormed() {
        if (!examined) {
            heights.examine(program);
            examined = true;
        }
        return heights.wellFormed;
    }

    private void requireWellFormed() {
        if (!isWellFormed()) {
            throw new IllegalStateException("the program is not well formed");
        }
    }

    /** Only for a well formed program: the weaver trusts its numbers. */
    private Listing wovenListing() {
        if (!woven) {
            weaver.weave(program, automaton);
            woven = true;
        }
        return weaver.listing;
    }

    private static boolean goesElsewhere(int operation) {
        return operation == GO || operation == IF;
    }

    /** A row of instructions, kept in arrays that are made once. */
    private static final class Listing {
        final int[] operations;
        final int[] numbers;
        int size;

        Listing(int most) {
            operations = new int[most];
            numbers = new int[most];
            size = 0;
        }

        void append(int operation, int k) {
            if (size < operations.length) {
                operations[size] = operation;
                numbers[size] = k;
                size++;
            }
        }
    }

    /** The policy; the rule from a state for an act stands at place(state, act). */
    private static final class Automaton {
        private static final int NO_RULE = -1;

        final int[] lowest;
        final int[] highest;
        final int[] then;
        int size;

        Automaton() {
            lowest = new int[MOST_STATES * ACTS];
            highest = new int[MOST_STATES * ACTS];
            then = new int[MOST_STATES * ACTS];
            reset(1);
        }

        static int place(int state, int act) {
            return state * ACTS + act;
        }

        void reset(int states) {
            size = states;
            for (int i = 0; i < then.length; i++) {
                then[i] = NO_RULE;
            }
        }

        boolean hasState(int state) {
            return state >= 0 && state < size;
        }

        void setRule(int place, int least, int most, int next) {
            lowest[place] = least;
            highest[place] = most;
            then[place] = next;
        }

        boolean hasRule(int place) {
            return then[place] != NO_RULE;
        }

        boolean allows(int place, int number) {
            return hasRule(place) && lowest[place] <= number && number <= highest[place];
        }

        int countRules(int act) {
            int count = 0;
            for (int state = 0; state < size; state++) {
                if (hasRule(place(state, act))) {
                    count++;
                }
            }
            return count;
        }
    }

    /** Whether a program is well formed, and with which height each instruction is reached. */
    private static final class Heights {
        private static final int NOT_REACHED = -1;
        // By operation: how many the stack must hold, and how many then stand in their place.
        private static final int[] TAKES = {0, 1, 2, 2, 2, 0, 1, 0, 1, 1, 2, 1, 0};
        private static final int[] LEAVES = {1, 0, 1, 1, 1, 1, 0, 0, 0, 0, 2, 2, 0};

        final int[] found;
        final int[] queue;
        int queued;
        boolean wellFormed;

        Heights() {
            found = new int[MOST_INSTRUCTIONS];
            queue = new int[MOST_INSTRUCTIONS];
            queued = 0;
            wellFormed = false;
        }

        void examine(Listing program) {
            wellFormed = program.size > 0 && numbersFit(program) && heightsFit(program);
        }

        private static boolean numbersFit(Listing program) {
            for (int i = 0; i < program.size; i++) {
                if (!numberFits(program.operations[i], program.numbers[i], program.size)) {
                    return false;
                }
            }
            return true;
        }

        private static boolean numberFits(int operation, int k, int size) {
            switch (operation) {
                case LOAD:
                case STORE:
                    // The program itself may not touch the cell that keeps the automaton's state.
                    return k >= 0 && k < STATE_CELL;
                case GO:
                case IF:
                    return k >= 0 && k < size;
                case ACT:
                    return k >= 0 && k < ACTS;
                default:
                    return true;
            }
        }

        private boolean heightsFit(Listing program) {
            for (int i = 0; i < program.size; i++) {
                found[i] = NOT_REACHED;
            }
            queued = 0;
            reach(program, 0, 0);
            // Each instruction is queued once, so the queue can't outgrow the program.
            for (int i = 0; i < queued && i < program.size; i++) {
                if (!waysOnFit(program, queue[i])) {
                    return false;
                }
            }
            return true;
        }

        private boolean waysOnFit(Listing program, int i) {
            int operation = program.operations[i];
            int below = found[i] - TAKES[operation];
            int after = below + LEAVES[operation];
            if (below < 0 || after > MOST_HEIGHT) {
                return false;
            }
            if (goesElsewhere(operation) && !reach(program, program.numbers[i], after)) {
                return false;
            }
            return operation == GO || operation == END || reach(program, i + 1, after);
        }

        /** False if there is no such instruction, or if it was reached with another height. */
        private boolean reach(Listing program, int i, int height) {
            if (i < 0 || i >= program.size) {
                return false;
            }
            if (found[i] == NOT_REACHED) {
                found[i] = height;
                queue[queued] = i;
                queued++;
            }
            return found[i] == height;
        }
    }

    /** Writes the enforced program of a well formed program and an automaton. */
    private static final class Weaver {
        final Listing listing;
        final int[] firstOf;

        Weaver() {
            listing = new Listing(MOST_ENFORCED);
            firstOf = new int[MOST_INSTRUCTIONS];
        }

        void weave(Listing program, Automaton automaton) {
            findFirsts(program, automaton);
            listing.size = 0;
            for (int i = 0; i < program.size; i++) {
                int operation = program.operations[i];
                int k = program.numbers[i];
                if (operation == ACT) {
                    appendGuard(automaton, k);
                }
                listing.append(operation, goesElsewhere(operation) ? firstOf[k] : k);
            }
        }

        /** Ahead of the writing, as GO and IF also go forward. */
        private void findFirsts(Listing program, Automaton automaton) {
            int next = 0;
            for (int i = 0; i < program.size; i++) {
                firstOf[i] = next;
                if (program.operations[i] == ACT) {
                    next += guardLength(automaton, program.numbers[i]);
                }
                next++;
            }
        }

        private static int guardLength(Automaton automaton, int act) {
            return automaton.countRules(act) * TEST_LENGTH + 1;
        }

        private void appendGuard(Automaton automaton, int act) {
            int stop = listing.size + guardLength(automaton, act) - 1;
            for (int state = 0; state < automaton.size; state++) {
                int place = Automaton.place(state, act);
                if (automaton.hasRule(place)) {
                    appendStateCheck(state, listing.size + TEST_LENGTH);
                    appendRangeCheck(automaton.lowest[place], automaton.highest[place], stop);
                    appendMove(automaton.then[place], stop + 1);
                }
            }
            listing.append(END, 0);
        }

        private void appendStateCheck(int state, int otherwise) {
            listing.append(LOAD, STATE_CELL);
            listing.append(PUSH, state);
            listing.append(SUBTRACT, 0);
            listing.append(IF, otherwise);
        }

        private void appendRangeCheck(int lowest, int highest, int stop) {
            listing.append(DUPLICATE, 0);
            listing.append(PUSH, lowest);
            listing.append(LESS, 0);
            listing.append(IF, stop);
            listing.append(DUPLICATE, 0);
            listing.append(PUSH, highest);
            listing.append(SWAP, 0);
            listing.append(LESS, 0);
            listing.append(IF, stop);
        }

        private void appendMove(int then, int actPlace) {
            listing.append(PUSH, then);
            listing.append(STORE, STATE_CELL);
            listing.append(GO, actPlace);
        }
    }

    /**
     * A run of a well formed program or of its enforced one. That the program is well formed is
     * why no index here leaves its array: a test adds at most two to the height of the stack.
     */
    private static final class Run {
        final int[] stack;
        final int[] cells;
        final int[] traceActs;
        final int[] traceNumbers;
        int how;
        int status;
        int place;
        int stacked;
        int state;
        int done;

        Run() {
            stack = new int[MOST_HEIGHT + 2];
            cells = new int[CELLS];
            traceActs = new int[MOST_TRACE];
            traceNumbers = new int[MOST_TRACE];
            status = NO_RUN;
        }

        void begin(int kind, int x) {
            how = kind;
            status = GOES_ON;
            place = 0;
            stacked = 0;
            state = 0;
            done = 0;
            for (int k = 0; k < CELLS; k++) {
                cells[k] = 0;
            }
            cells[0] = x;
        }

        int policyState() {
            return how == ENFORCED ? cells[STATE_CELL] : state;
        }

        void advance(Listing listing, Automaton automaton) {
            int operation = listing.operations[place];
            int k = listing.numbers[place];
            switch (operation) {
                case GO:
                    place = k;
                    break;
                case IF:
                    place = pop() != 0 ? k : place + 1;
                    break;
                case ACT:
                    tryAct(automaton, k);
                    break;
                case END:
                    status = OVER;
                    break;
                default:
                    work(operation, k);
                    place++;
                    break;
            }
        }

        /** An act that is not done leaves all as it was: its number stays on the stack. */
        private void tryAct(Automaton automaton, int act) {
            int number = stack[stacked - 1];
            int rule = Automaton.place(state, act);
            if (how == WATCHED && !automaton.allows(rule, number)) {
                status = STOPPED;
                return;
            }
            if (done >= MOST_TRACE) {
                status = FULL;
                return;
            }
            if (how == WATCHED) {
                state = automaton.then[rule];
            }
            traceActs[done] = act;
            traceNumbers[done] = number;
            done++;
            stacked--;
            place++;
        }

        private void work(int operation, int k) {
            switch (operation) {
                case PUSH:
                    push(k);
                    break;
                case DROP:
                    stacked--;
                    break;
                case LOAD:
                    push(cells[k]);
                    break;
                case STORE:
                    cells[k] = pop();
                    break;
                case DUPLICATE:
                    push(stack[stacked - 1]);
                    break;
                default:
                    workOnTwo(operation);
                    break;
            }
        }

        private void workOnTwo(int operation) {
            int b = pop();
            int a = pop();
            switch (operation) {
                case ADD:
                    push(a + b);
                    break;
                case SUBTRACT:
                    push(a - b);
                    break;
                case LESS:
                    push(a < b ? 1 : 0);
                    break;
                default:
                    push(b);
                    push(a);
                    break;
            }
        }

        private void push(int number) {
            stack[stacked] = number;
            stacked++;
        }

        private int pop() {
            stacked--;
            return stack[stacked];
        }
    }
}
