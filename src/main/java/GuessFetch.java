/**
 * A machine that fetches ahead of what it knows. Where the program goes on is guessed; what was
 * fetched by a wrong guess is dropped before it does anything. ../shared/DOC.md tells the promises;
 * words in capitals are the document's own.
 */
public final class GuessFetch {
    public static final int NONE = -1, UNKNOWN = -101, OUTSIDE = -102, STATE = -103, FULL = -104;

    // The KINDS of ACTS.
    private static final int SET = 0, ADD = 1, LESS = 2, LOAD = 3, STORE = 4, BELOW = 5, SAME = 6,
            JUMP = 7, CALL = 8, BACK = 9, BY = 10, HALT = 11;

    // The parts of an ACT, as told() numbers them.
    private static final int KIND = 0, A = 1, B = 2, C = 3, PARTS = 4;

    // The WAYS that look at counters; NEVER, the one that does not, is 0.
    private static final int WAY_PLAIN = 1, WAY_MIXED = 2, WAY_CHOICE = 3;

    // What harm() and table() reach, by their numbers.
    private static final int PLAIN = 0, MIXED = 1, CHOICE = 2, TARGET_ADDRESS = 3, TARGET_KIND = 4,
            TARGET_GOAL = 5, HISTORY = 6, RETURNS = 7, RETURNS_SIZE = 8;

    // What count() tells, by its numbers.
    private static final int CYCLES = 0, ACTS_DONE = 1, WRONG = 2, DROPPED = 3, TURNS_DONE = 4,
            BRANCHES_DONE = 5, BRANCHES_WRONG = 6, BACKS_WRONG = 7, FOUND_IN_TARGETS = 8,
            STACK_SIZE = 9, FETCHED_NOW = 10, PLACE = 11, RUNS_EVER = 12, DONE_EVER = 13,
            WRONG_EVER = 14, ACTS = 15, WAY = 16, DEPTH = 17, COUNTS = 18;

    // How a RUN stands, as ended() tells it.
    private static final int UNDER_WAY = 0, BY_HALT = 1, BY_FAULT = 2, BROKEN_OFF = 3;

    private static final int MOST_ACTS = 60, REGISTERS = 8, MEMORY = 16, MOST_STACK = 16,
            COUNTERS = 16, TARGETS = 8, MOST_RETURNS = 4, MOST_DEPTH = 6, MOST_CYCLES = 5000,
            MOST_DONE_KEPT = 300, HIGHEST_COUNTER = 3, HIGHEST_HISTORY = 15, HIGHEST_HARM = 200,
            BELOW_HIGHEST_BIT = 0x7FFFFFFF;

    private final Program program = new Program();
    private final Core core = new Core();
    private final Guesser guesser = new Guesser();
    private final Queue queue = new Queue();
    private final Row counts = new Row(COUNTS);
    private final Pile doneAddresses = new Pile(MOST_DONE_KEPT);
    private int guessWay = 0;
    private int guessDepth = 3;
    private int place = 0;
    private int runState = NONE;

    public GuessFetch() {
    }

    // ---- the program

    public int act(int kind, int a, int b, int c) {
        boolean goesToC = kind >= BELOW && kind <= CALL;
        if (!isWithin(kind, SET, HALT) || !isWithin(a, 0, REGISTERS - 1)
                || !isWithin(b, 0, REGISTERS - 1) || goesToC && !isWithin(c, 0, MOST_ACTS)) {
            return OUTSIDE;
        }
        if (isUnderWay()) {
            return STATE;
        }
        return program.add(kind, a, b, c) ? program.size() - 1 : FULL;
    }

    public int wipe() {
        return isUnderWay() ? STATE : program.clear();
    }

    public long put(int i, int v) {
        if (!core.hasCell(i)) {
            return UNKNOWN;
        }
        return isUnderWay() ? STATE : core.setCell(i, v);
    }

    public int way(int way, int depth) {
        if (!isWithin(way, 0, WAY_CHOICE) || !isWithin(depth, 1, MOST_DEPTH)) {
            return OUTSIDE;
        }
        if (isUnderWay()) {
            return STATE;
        }
        guessWay = way;
        guessDepth = depth;
        return 1;
    }

    // ---- runs

    public int begin() {
        if (isUnderWay()) {
            return STATE;
        }
        for (int what = CYCLES; what <= FOUND_IN_TARGETS; what++) {
            counts.set(what, 0);
        }
        counts.add(RUNS_EVER, 1);
        doneAddresses.clear();
        core.emptyStack();
        guesser.returns().clear();
        place = 0;
        runState = UNDER_WAY;
        return 1;
    }

    public int run(int n) {
        if (!isWithin(n, 1, MOST_CYCLES)) {
            return OUTSIDE;
        }
        if (!isUnderWay()) {
            return STATE;
        }
        int doneBefore = counts.get(ACTS_DONE);
        for (int k = 0; k < n && isUnderWay(); k++) {
            passCycle();
        }
        return counts.get(ACTS_DONE) - doneBefore;
    }

    public int stop() {
        if (!isUnderWay()) {
            return STATE;
        }
        endRun(BROKEN_OFF);
        return counts.get(ACTS_DONE);
    }

    public int ended() {
        return runState;
    }

    // ---- tables

    public int harm(int what, int i, int v) {
        if (!isWithin(what, PLAIN, RETURNS)) {
            return OUTSIDE;
        }
        // Of RETURNS only those that are there can be changed; table() tells NONE of the others.
        if (!isTablePlace(what, i) || what == RETURNS && i >= guesser.returns().size()) {
            return UNKNOWN;
        }
        return isTableValue(what, v) ? guesser.setCell(what, i, v) : OUTSIDE;
    }

    public int forget() {
        if (isUnderWay()) {
            return STATE;
        }
        guesser.forgetTables();
        return 1;
    }

    public int table(int what, int i) {
        if (!isWithin(what, PLAIN, RETURNS_SIZE)) {
            return OUTSIDE;
        }
        return isTablePlace(what, i) ? guesser.cell(what, i) : UNKNOWN;
    }

    // ---- what is told

    public long value(int i) {
        return core.hasCell(i) ? core.cell(i) : UNKNOWN;
    }

    public int stack(int k) {
        return core.stackAddress(k);
    }

    public int done(int k) {
        return doneAddresses.get(k);
    }

    public int fetched(int k) {
        return queue.address(k);
    }

    public int known() {
        if (!isUnderWay()) {
            return STATE;
        }
        return queue.size() > 0 ? queue.address(0) : place;
    }

    public int told(int p, int what) {
        if (!program.has(p)) {
            return UNKNOWN;
        }
        return isWithin(what, KIND, C) ? program.part(p, what) : OUTSIDE;
    }

    public int count(int what) {
        switch (what) {
            case STACK_SIZE: return core.stackSize();
            case FETCHED_NOW: return queue.size();
            case PLACE: return place;
            case ACTS: return program.size();
            case WAY: return guessWay;
            case DEPTH: return guessDepth;
            default: return isWithin(what, CYCLES, WRONG_EVER) ? counts.get(what) : OUTSIDE;
        }
    }

    public long digest() {
        long h = 73;
        for (int p = 0; p < program.size(); p++) {
            for (int what = KIND; what <= C; what++) {
                h = 31 * h + told(p, what);
            }
        }
        for (int i = 0; i < REGISTERS + MEMORY; i++) {
            h = 31 * h + value(i);
        }
        for (int k = 0; k < core.stackSize(); k++) {
            h = 31 * h + stack(k);
        }
        h = digestOfTables(h);
        for (int k = 0; k < queue.size(); k++) {
            h = 31 * h + fetched(k);
        }
        for (int what = 0; what < COUNTS; what++) {
            h = 31 * h + count(what);
        }
        return h;
    }

    private long digestOfTables(long before) {
        long h = before;
        for (int what = PLAIN; what <= TARGET_GOAL; what++) {
            int places = what <= CHOICE ? COUNTERS : TARGETS;
            for (int i = 0; i < places; i++) {
                h = 31 * h + table(what, i);
            }
        }
        h = 31 * h + table(HISTORY, 0);
        h = 31 * h + table(RETURNS_SIZE, 0);
        for (int i = 0; i < guesser.returns().size(); i++) {
            h = 31 * h + table(RETURNS, i);
        }
        return h;
    }

    // ---- CYCLES

    private boolean isUnderWay() {
        return runState == UNDER_WAY;
    }

    private void passCycle() {
        counts.add(CYCLES, 1);
        if (queue.size() == 0 && !program.has(place)) {
            endRun(BY_FAULT);
            return;
        }
        if (queue.isEldestOf(counts.get(CYCLES) - guessDepth)) {
            finishEldest();
        }
        if (isUnderWay() && program.has(place)) {
            fetchAtPlace();
        }
    }

    private void fetchAtPlace() {
        // What is kept is how things stood ahead of the guess: a WRONG one goes back to it.
        int slot = queue.add(place, counts.get(CYCLES));
        queue.keep(slot, guesser.history(), guesser.returns());
        if (guesser.isInTargets(place)) {
            counts.add(FOUND_IN_TARGETS, 1);
        }
        place = guesser.guess(place, guessWay);
        queue.setGuess(slot, place);
    }

    private void finishEldest() {
        int slot = queue.takeEldest();
        int p = queue.addressOf(slot);
        int kind = program.part(p, KIND);
        boolean turned = core.turns(program, p);
        int next = kind == HALT ? NONE : core.perform(program, p);
        if (next == NONE && kind != HALT) {
            endRun(BY_FAULT);
            return;
        }
        noteDone(p, kind);
        if (kind == HALT) {
            endRun(BY_HALT);
            return;
        }
        if (isBranch(kind)) {
            guesser.learn(p, queue.historyOf(slot), turned);
        }
        if (turned) {
            guesser.noteTarget(p, kind, next);
        }
        if (next != queue.guessOf(slot)) {
            goBack(slot, kind, turned, next);
        }
    }

    private void noteDone(int p, int kind) {
        counts.add(ACTS_DONE, 1);
        counts.add(DONE_EVER, 1);
        doneAddresses.push(p);
        if (isTurn(kind)) {
            counts.add(TURNS_DONE, 1);
        }
        if (isBranch(kind)) {
            counts.add(BRANCHES_DONE, 1);
        }
    }

    /** The WRONG guess of the ACT in this slot is taken back. */
    private void goBack(int slot, int kind, boolean turned, int next) {
        counts.add(WRONG, 1);
        counts.add(WRONG_EVER, 1);
        if (isBranch(kind)) {
            counts.add(BRANCHES_WRONG, 1);
        }
        if (kind == BACK) {
            counts.add(BACKS_WRONG, 1);
        }
        dropFetched();
        place = next;
        guesser.setHistory(queue.historyOf(slot));
        queue.giveReturnsBack(slot, guesser.returns());
        guesser.noteWhatWasDone(queue.addressOf(slot), kind, turned);
    }

    private void dropFetched() {
        counts.add(DROPPED, queue.size());
        queue.clear();
    }

    /** Every RUN leaves nothing FETCHED behind, so that the next one begins with none. */
    private void endRun(int how) {
        dropFetched();
        runState = how;
    }

    // ---- what numbers may be

    private static boolean isWithin(int number, int lowest, int highest) {
        return number >= lowest && number <= highest;
    }

    private static boolean isBranch(int kind) {
        return kind == BELOW || kind == SAME;
    }

    private static boolean isTurn(int kind) {
        return isWithin(kind, BELOW, BY);
    }

    private static boolean isTablePlace(int what, int i) {
        switch (what) {
            case PLAIN: case MIXED: case CHOICE: return isWithin(i, 0, COUNTERS - 1);
            case TARGET_ADDRESS: case TARGET_KIND: case TARGET_GOAL: return isWithin(i, 0, TARGETS - 1);
            case RETURNS: return isWithin(i, 0, MOST_RETURNS - 1);
            default: return true;
        }
    }

    private static boolean isTableValue(int what, int v) {
        switch (what) {
            case PLAIN: case MIXED: case CHOICE: return isWithin(v, 0, HIGHEST_COUNTER);
            case TARGET_ADDRESS: return isWithin(v, NONE, HIGHEST_HARM);
            case TARGET_KIND: return isWithin(v, BELOW, BY);
            case HISTORY: return isWithin(v, 0, HIGHEST_HISTORY);
            default: return isWithin(v, 0, HIGHEST_HARM);
        }
    }

    /** A row of numbers that looks at every index before it is used. */
    private static final class Row {
        private final int[] cells;

        Row(int length) {
            cells = new int[Math.max(0, length)];
        }

        int get(int i) {
            return i >= 0 && i < cells.length ? cells[i] : 0;
        }

        /** What stood there before. */
        int set(int i, int v) {
            if (i < 0 || i >= cells.length) {
                return 0;
            }
            int before = cells[i];
            cells[i] = v;
            return before;
        }

        void add(int i, int more) {
            set(i, get(i) + more);
        }

        void fill(int v) {
            for (int i = 0; i < cells.length; i++) {
                cells[i] = v;
            }
        }
    }

    /** Numbers of 0 and above, one on top of the other. */
    private static final class Pile {
        private final int[] cells;
        private int size = 0;

        Pile(int most) {
            cells = new int[Math.max(0, most)];
        }

        int size() {
            return size;
        }

        int get(int k) {
            return has(k) ? cells[k] : NONE;
        }

        /** What stood there before. */
        int set(int k, int v) {
            if (!has(k)) {
                return NONE;
            }
            int before = cells[k];
            cells[k] = v;
            return before;
        }

        /** Whether there was room for it. */
        boolean push(int v) {
            if (size < 0 || size >= cells.length) {
                return false;
            }
            cells[size] = v;
            size++;
            return true;
        }

        void pushEldestOut(int v) {
            if (size >= cells.length) {
                for (int k = 1; k < cells.length; k++) {
                    cells[k - 1] = cells[k];
                }
                size = Math.max(0, cells.length - 1);
            }
            push(v);
        }

        /** The top, that goes; NONE if there is none. */
        int pop() {
            int top = get(size - 1);
            size = Math.max(0, size - 1);
            return top;
        }

        void clear() {
            size = 0;
        }

        private boolean has(int k) {
            return k >= 0 && k < size && k < cells.length;
        }
    }

    /** THE PROGRAM. */
    private static final class Program {
        private final Row parts = new Row(MOST_ACTS * PARTS);
        private int size = 0;

        int size() {
            return size;
        }

        boolean has(int p) {
            return p >= 0 && p < size;
        }

        int part(int p, int what) {
            return parts.get(p * PARTS + what);
        }

        /** Whether there was room for it. */
        boolean add(int kind, int a, int b, int c) {
            if (size >= MOST_ACTS) {
                return false;
            }
            parts.set(size * PARTS + KIND, kind);
            parts.set(size * PARTS + A, a);
            parts.set(size * PARTS + B, b);
            parts.set(size * PARTS + C, c);
            size++;
            return true;
        }

        /** How many ACTS there were. */
        int clear() {
            int before = size;
            size = 0;
            return before;
        }
    }

    /** What ACTS change when they are DONE: REGISTERS, MEMORY, THE STACK. */
    private static final class Core {
        private final Row registers = new Row(REGISTERS);
        private final Row memory = new Row(MEMORY);
        private final Pile addresses = new Pile(MOST_STACK);

        boolean hasCell(int i) {
            return i >= 0 && i < REGISTERS + MEMORY;
        }

        int cell(int i) {
            return i < REGISTERS ? registers.get(i) : memory.get(i - REGISTERS);
        }

        int setCell(int i, int v) {
            return i < REGISTERS ? registers.set(i, v) : memory.set(i - REGISTERS, v);
        }

        int stackSize() {
            return addresses.size();
        }

        int stackAddress(int k) {
            return addresses.get(k);
        }

        void emptyStack() {
            addresses.clear();
        }

        /** Whether the ACT is a TURN that turns, as REGISTERS stand. */
        boolean turns(Program program, int p) {
            int kind = program.part(p, KIND);
            int x = registers.get(program.part(p, A));
            int y = registers.get(program.part(p, B));
            switch (kind) {
                case BELOW: return x < y;
                case SAME: return x == y;
                default: return isTurn(kind);
            }
        }

        /** Does the ACT; where the program goes on, or NONE if the ACT is a FAULT and did nothing. */
        int perform(Program program, int p) {
            int a = program.part(p, A);
            int c = program.part(p, C);
            int x = registers.get(a);
            int y = registers.get(program.part(p, B));
            switch (program.part(p, KIND)) {
                case SET: registers.set(a, c); break;
                case ADD: registers.set(a, x + y); break;
                case LESS: registers.set(a, x - y); break;
                case LOAD: registers.set(a, memory.get(y & (MEMORY - 1))); break;
                case STORE: memory.set(y & (MEMORY - 1), x); break;
                case BELOW: return x < y ? c : p + 1;
                case SAME: return x == y ? c : p + 1;
                case JUMP: return c;
                case CALL: return addresses.push(p + 1) ? c : NONE;
                case BACK: return addresses.pop();
                case BY: return program.size() > 0 ? (x & BELOW_HIGHEST_BIT) % program.size() : NONE;
                default: break;
            }
            return p + 1;
        }
    }

    /** TABLES, HISTORY, RETURNS: all that guesses are made of. */
    private static final class Guesser {
        private final Row plain = new Row(COUNTERS);
        private final Row mixed = new Row(COUNTERS);
        private final Row choice = new Row(COUNTERS);
        private final Row targetAddresses = new Row(TARGETS);
        private final Row targetKinds = new Row(TARGETS);
        private final Row targetGoals = new Row(TARGETS);
        private final Pile returns = new Pile(MOST_RETURNS);
        private int history = 0;

        Guesser() {
            forgetTables();
        }

        void forgetTables() {
            plain.fill(1);
            mixed.fill(1);
            choice.fill(1);
            targetAddresses.fill(NONE);
            targetKinds.fill(BELOW);
            targetGoals.fill(0);
            history = 0;
        }

        int history() {
            return history;
        }

        void setHistory(int bits) {
            history = bits;
        }

        Pile returns() {
            return returns;
        }

        int cell(int what, int i) {
            switch (what) {
                case HISTORY: return history;
                case RETURNS: return returns.get(i);
                case RETURNS_SIZE: return returns.size();
                default: return row(what).get(i);
            }
        }

        /** What stood there before. */
        int setCell(int what, int i, int v) {
            if (what == RETURNS) {
                return returns.set(i, v);
            }
            if (what == HISTORY) {
                int before = history;
                history = v;
                return before;
            }
            return row(what).set(i, v);
        }

        private Row row(int what) {
            switch (what) {
                case PLAIN: return plain;
                case MIXED: return mixed;
                case CHOICE: return choice;
                case TARGET_ADDRESS: return targetAddresses;
                case TARGET_KIND: return targetKinds;
                default: return targetGoals;
            }
        }

        boolean isInTargets(int p) {
            return targetAddresses.get(p % TARGETS) == p;
        }

        /** Where the program seems to go on behind p; HISTORY and RETURNS go along with the guess. */
        int guess(int p, int way) {
            if (!isInTargets(p)) {
                return p + 1;
            }
            int goal = targetGoals.get(p % TARGETS);
            int kind = targetKinds.get(p % TARGETS);
            if (isBranch(kind)) {
                boolean turns = seemsToTurn(p, way);
                noteBit(turns);
                return turns ? goal : p + 1;
            }
            if (kind == BACK) {
                int latest = returns.pop();
                return latest == NONE ? p + 1 : latest;
            }
            if (kind == CALL) {
                returns.pushEldestOut(p + 1);
            }
            return goal;
        }

        private boolean seemsToTurn(int p, int way) {
            switch (way) {
                case WAY_PLAIN: return tellsTurn(plain, p % COUNTERS);
                case WAY_MIXED: return tellsTurn(mixed, mixedPlace(p, history));
                case WAY_CHOICE:
                    return tellsTurn(choice, p % COUNTERS)
                            ? tellsTurn(mixed, mixedPlace(p, history)) : tellsTurn(plain, p % COUNTERS);
                default: return false;
            }
        }

        private static int mixedPlace(int p, int bits) {
            return (p % COUNTERS) ^ bits;
        }

        private static boolean tellsTurn(Row counters, int i) {
            return counters.get(i) >= 2;
        }

        private static void step(Row counters, int i, boolean up) {
            int v = counters.get(i) + (up ? 1 : -1);
            counters.set(i, Math.max(0, Math.min(HIGHEST_COUNTER, v)));
        }

        private void noteBit(boolean turned) {
            history = (history << 1 | (turned ? 1 : 0)) & HIGHEST_HISTORY;
        }

        /** Counters learn what the BRANCH at p did, with HISTORY as it was when p was FETCHED. */
        void learn(int p, int historyThen, boolean turned) {
            int i = p % COUNTERS;
            int m = mixedPlace(p, historyThen);
            boolean plainTold = tellsTurn(plain, i);
            boolean mixedTold = tellsTurn(mixed, m);
            step(plain, i, turned);
            step(mixed, m, turned);
            if (plainTold != mixedTold) {
                step(choice, i, mixedTold == turned);
            }
        }

        void noteTarget(int p, int kind, int goal) {
            targetAddresses.set(p % TARGETS, p);
            targetKinds.set(p % TARGETS, kind);
            targetGoals.set(p % TARGETS, goal);
        }

        /** Behind a WRONG guess: what the ACT at p really did comes to HISTORY or RETURNS. */
        void noteWhatWasDone(int p, int kind, boolean turned) {
            if (isBranch(kind)) {
                noteBit(turned);
            }
            if (kind == CALL) {
                returns.pushEldestOut(p + 1);
            }
            if (kind == BACK) {
                returns.pop();
            }
        }
    }

    /** The FETCHED ACTS, the eldest first. Its slots go round, so that no CYCLE makes an object. */
    private static final class Queue {
        private final Row addresses = new Row(MOST_DEPTH);
        private final Row guesses = new Row(MOST_DEPTH);
        private final Row cycles = new Row(MOST_DEPTH);
        private final Row histories = new Row(MOST_DEPTH);
        private final Row returnsSizes = new Row(MOST_DEPTH);
        private final Row returns = new Row(MOST_DEPTH * MOST_RETURNS);
        private int first = 0;
        private int size = 0;

        int size() {
            return size;
        }

        void clear() {
            size = 0;
        }

        int address(int k) {
            return k >= 0 && k < size ? addresses.get((first + k) % MOST_DEPTH) : NONE;
        }

        /** Whether the eldest was FETCHED in this CYCLE. */
        boolean isEldestOf(int cycle) {
            return size > 0 && cycles.get(first) == cycle;
        }

        /** Its slot, that can be asked until the next one is added. */
        int takeEldest() {
            int slot = first;
            first = (first + 1) % MOST_DEPTH;
            size = Math.max(0, size - 1);
            return slot;
        }

        int addressOf(int slot) {
            return addresses.get(slot);
        }

        int guessOf(int slot) {
            return guesses.get(slot);
        }

        int historyOf(int slot) {
            return histories.get(slot);
        }

        void setGuess(int slot, int guess) {
            guesses.set(slot, guess);
        }

        /** The slot that the ACT is in. */
        int add(int address, int cycle) {
            int slot = (first + size) % MOST_DEPTH;
            size = Math.min(MOST_DEPTH, size + 1);
            addresses.set(slot, address);
            cycles.set(slot, cycle);
            return slot;
        }

        /** Keeps HISTORY and RETURNS with the ACT in this slot. */
        void keep(int slot, int history, Pile latest) {
            histories.set(slot, history);
            returnsSizes.set(slot, latest.size());
            for (int i = 0; i < MOST_RETURNS; i++) {
                returns.set(slot * MOST_RETURNS + i, latest.get(i));
            }
        }

        /** RETURNS become what was kept with the ACT in this slot. */
        void giveReturnsBack(int slot, Pile latest) {
            latest.clear();
            for (int i = 0; i < MOST_RETURNS && i < returnsSizes.get(slot); i++) {
                latest.push(returns.get(slot * MOST_RETURNS + i));
            }
        }
    }
}
