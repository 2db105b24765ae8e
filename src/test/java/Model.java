import java.util.ArrayList;
import java.util.List;

/**
 * The document once more, written plainly and apart from the program, with lists that are copied
 * wherever something is kept. ModelTest compares the two.
 */
final class Model {
    static final int NONE = -1, UNKNOWN = -101, OUTSIDE = -102, STATE = -103, FULL = -104;

    /** An ACT that is FETCHED, and what is kept with it. */
    private record Held(int address, int cycle, int history, List<Integer> returns, int guess) {
    }

    private final Interpreter known = new Interpreter();
    private int way = 0;
    private int depth = 3;
    private int state = NONE;
    private int place = 0;
    private final int[][] counters = new int[3][16];
    private final int[][] targets = new int[3][8];
    private int history;
    private List<Integer> returns = new ArrayList<>();
    private List<Held> held = new ArrayList<>();
    private final List<Integer> done = new ArrayList<>();
    private int[] counts = new int[9];
    private int runsEver = 0;
    private int doneEver = 0;
    private int wrongEver = 0;

    Model() {
        setTablesBack();
    }

    private void setTablesBack() {
        for (int i = 0; i < 16; i++) {
            counters[0][i] = counters[1][i] = counters[2][i] = 1;
            targets[0][i / 2] = NONE;
            targets[1][i / 2] = 5;
            targets[2][i / 2] = 0;
        }
        history = 0;
    }

    private static boolean out(int v, int low, int high) {
        return v < low || v > high;
    }

    int act(int kind, int a, int b, int c) {
        if (out(kind, 0, 11) || out(a, 0, 7) || out(b, 0, 7)) return OUTSIDE;
        if (!out(kind, 5, 8) && out(c, 0, 60)) return OUTSIDE;
        if (state == 0) return STATE;
        if (known.acts.size() == 60) return FULL;
        known.acts.add(new int[] {kind, a, b, c});
        return known.acts.size() - 1;
    }

    int wipe() {
        if (state == 0) return STATE;
        int were = known.acts.size();
        known.acts.clear();
        return were;
    }

    long put(int i, int v) {
        if (out(i, 0, 23)) return UNKNOWN;
        if (state == 0) return STATE;
        long was = value(i);
        if (i < 8) known.registers[i] = v; else known.memory[i - 8] = v;
        return was;
    }

    int way(int newWay, int newDepth) {
        if (out(newWay, 0, 3) || out(newDepth, 1, 6)) return OUTSIDE;
        if (state == 0) return STATE;
        way = newWay;
        depth = newDepth;
        return 1;
    }

    int begin() {
        if (state == 0) return STATE;
        state = 0;
        place = 0;
        known.stack.clear();
        held = new ArrayList<>();
        returns = new ArrayList<>();
        done.clear();
        counts = new int[9];
        runsEver++;
        return 1;
    }

    int run(int n) {
        if (out(n, 1, 5000)) return OUTSIDE;
        if (state != 0) return STATE;
        int before = counts[1];
        for (int k = 0; k < n && state == 0; k++) cycle();
        return counts[1] - before;
    }

    int stop() {
        if (state != 0) return STATE;
        end(3);
        return counts[1];
    }

    int ended() {
        return state;
    }

    private void end(int how) {
        dropAll();
        state = how;
    }

    private void dropAll() {
        counts[3] += held.size();
        held = new ArrayList<>();
    }

    private boolean isAct(int p) {
        return p < known.acts.size();
    }

    private void cycle() {
        counts[0]++;
        if (held.isEmpty() && !isAct(place)) {
            end(2);
            return;
        }
        if (!held.isEmpty() && held.get(0).cycle == counts[0] - depth) finish(held.remove(0));
        if (state == 0 && isAct(place)) fetch();
    }

    private static int withBit(int bits, boolean one) {
        return bits * 2 % 16 + (one ? 1 : 0);
    }

    private static List<Integer> withLatest(List<Integer> row, int address) {
        List<Integer> longer = new ArrayList<>(row);
        longer.add(address);
        return longer.size() > 4 ? longer.subList(1, 5) : longer;
    }

    private static List<Integer> withoutLatest(List<Integer> row) {
        return row.isEmpty() ? row : new ArrayList<>(row.subList(0, row.size() - 1));
    }

    private void fetch() {
        int p = place;
        int historyThen = history;
        List<Integer> returnsThen = new ArrayList<>(returns);
        int guess = p + 1;
        if (targets[0][p % 8] == p) {
            counts[8]++;
            int kind = targets[1][p % 8];
            int goal = targets[2][p % 8];
            if (kind == 7 || kind == 10 || kind == 8) guess = goal;
            if (kind == 8) returns = withLatest(returns, p + 1);
            if (kind == 9 && !returns.isEmpty()) {
                guess = returns.get(returns.size() - 1);
                returns = withoutLatest(returns);
            }
            if (kind == 5 || kind == 6) {
                boolean plain = counters[0][p % 16] > 1;
                boolean mixed = counters[1][p % 16 ^ history] > 1;
                boolean chosen = counters[2][p % 16] > 1 ? mixed : plain;
                boolean[] tells = {false, plain, mixed, chosen};
                history = withBit(history, tells[way]);
                if (tells[way]) guess = goal;
            }
        }
        held.add(new Held(p, counts[0], historyThen, returnsThen, guess));
        place = guess;
    }

    private void count(int[] row, int i, boolean more) {
        if (more && row[i] < 3) row[i]++;
        if (!more && row[i] > 0) row[i]--;
    }

    private void finish(Held h) {
        int p = h.address;
        int kind = known.acts.get(p)[0];
        int next = known.step(p);
        boolean turned = known.turned;
        boolean branch = kind == 5 || kind == 6;
        if (next == Interpreter.FAULT) {
            end(2);
            return;
        }
        counts[1]++;
        doneEver++;
        if (done.size() < 300) done.add(p);
        if (kind >= 5 && kind <= 10) counts[4]++;
        if (branch) counts[5]++;
        if (next == Interpreter.HALT) {
            end(1);
            return;
        }
        if (branch) {
            int m = p % 16 ^ h.history;
            boolean plainTold = counters[0][p % 16] > 1;
            boolean mixedTold = counters[1][m] > 1;
            count(counters[0], p % 16, turned);
            count(counters[1], m, turned);
            if (plainTold != mixedTold) count(counters[2], p % 16, mixedTold == turned);
        }
        if (turned) {
            targets[0][p % 8] = p;
            targets[1][p % 8] = kind;
            targets[2][p % 8] = next;
        }
        if (next == h.guess) return;
        counts[2]++;
        wrongEver++;
        if (branch) counts[6]++;
        if (kind == 9) counts[7]++;
        dropAll();
        place = next;
        history = branch ? withBit(h.history, turned) : h.history;
        returns = new ArrayList<>(h.returns);
        if (kind == 8) returns = withLatest(returns, p + 1);
        if (kind == 9) returns = withoutLatest(returns);
    }

    int harm(int what, int i, int v) {
        if (out(what, 0, 7)) return OUTSIDE;
        int places = what < 3 ? 16 : what < 6 ? 8 : returns.size();
        if (what != 6 && out(i, 0, places - 1)) return UNKNOWN;
        int low = what == 3 ? -1 : what == 4 ? 5 : 0;
        int high = what < 3 ? 3 : what == 4 ? 10 : what == 6 ? 15 : 200;
        if (out(v, low, high)) return OUTSIDE;
        int was = table(what, i);
        if (what < 3) counters[what][i] = v;
        else if (what < 6) targets[what - 3][i] = v;
        else if (what == 6) history = v;
        else {
            returns = new ArrayList<>(returns);
            returns.set(i, v);
        }
        return was;
    }

    int forget() {
        if (state == 0) return STATE;
        setTablesBack();
        return 1;
    }

    int table(int what, int i) {
        if (out(what, 0, 8)) return OUTSIDE;
        if (what == 8) return returns.size();
        if (what == 6) return history;
        if (out(i, 0, what < 3 ? 15 : what < 6 ? 7 : 3)) return UNKNOWN;
        if (what < 3) return counters[what][i];
        if (what < 6) return targets[what - 3][i];
        return kth(returns, i);
    }

    private static int kth(List<Integer> row, int k) {
        return out(k, 0, row.size() - 1) ? NONE : row.get(k);
    }

    long value(int i) {
        if (out(i, 0, 23)) return UNKNOWN;
        return i < 8 ? known.registers[i] : known.memory[i - 8];
    }

    int stack(int k) {
        return kth(known.stack, k);
    }

    int done(int k) {
        return kth(done, k);
    }

    int fetched(int k) {
        return out(k, 0, held.size() - 1) ? NONE : held.get(k).address;
    }

    int known() {
        if (state != 0) return STATE;
        return held.isEmpty() ? place : held.get(0).address;
    }

    int told(int p, int what) {
        if (out(p, 0, known.acts.size() - 1)) return UNKNOWN;
        return out(what, 0, 3) ? OUTSIDE : known.acts.get(p)[what];
    }

    int count(int what) {
        if (out(what, 0, 17)) return OUTSIDE;
        if (what < 9) return counts[what];
        int[] rest = {known.stack.size(), held.size(), place, runsEver, doneEver, wrongEver, known.acts.size(), way, depth};
        return rest[what - 9];
    }

    long digest() {
        List<Long> numbers = new ArrayList<>();
        for (int[] act : known.acts) for (int part : act) numbers.add((long) part);
        for (int i = 0; i < 24; i++) numbers.add(value(i));
        for (int p : known.stack) numbers.add((long) p);
        for (int[] row : counters) for (int v : row) numbers.add((long) v);
        for (int[] row : targets) for (int v : row) numbers.add((long) v);
        numbers.add((long) history);
        numbers.add((long) returns.size());
        for (int p : returns) numbers.add((long) p);
        for (Held h : held) numbers.add((long) h.address);
        for (int what = 0; what < 18; what++) numbers.add((long) count(what));
        long h = 73;
        for (long v : numbers) h = 31 * h + v;
        return h;
    }
}
