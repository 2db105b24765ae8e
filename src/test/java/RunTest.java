/** Promises 6 to 9, 13 to 17 and 19: runs, what ACTS do, and what is told of a run. */
final class RunTest {
    private static final int MIN = Integer.MIN_VALUE, MAX = Integer.MAX_VALUE;

    public static void main(String[] args) {
        actsDoWhatTheyAreToDo();
        loadAndStoreTakeFourBits();
        bySkipsTheHighestBit();
        callAndBack();
        theStackHoldsSixteen();
        backWithoutAny();
        whereNoActIs();
        haltIsDoneAndTheRestIsDropped();
        cyclesAndDepth();
        runRefuses();
        stopBreaksOff();
        beginStartsAnew();
        doneKeepsThreeHundred();
        countsOfALoop();
        valueRefuses();
        Due.end();
    }

    /** Runs the ACTS, a HALT behind them, from the given r1 and r2, to the end. */
    private static GuessFetch ran(int r1, int r2, int[]... acts) {
        GuessFetch x = new GuessFetch();
        x.put(1, r1);
        x.put(2, r2);
        for (int[] act : acts) {
            x.act(act[0], act[1], act[2], act[3]);
        }
        x.act(11, 0, 0, 0);
        x.begin();
        x.run(5000);
        return x;
    }

    private static void actsDoWhatTheyAreToDo() {
        Due.is("SET", ran(3, 4, new int[] {0, 1, 2, MIN}).value(1), MIN);
        Due.is("ADD", ran(3, 4, new int[] {1, 1, 2, 0}).value(1), 7);
        Due.is("ADD leaves r[b]", ran(3, 4, new int[] {1, 1, 2, 0}).value(2), 4);
        Due.is("ADD wraps", ran(MAX, 1, new int[] {1, 1, 2, 0}).value(1), MIN);
        Due.is("LESS", ran(3, 4, new int[] {2, 1, 2, 0}).value(1), -1);
        Due.is("LESS wraps", ran(MIN, 1, new int[] {2, 1, 2, 0}).value(1), MAX);
        Due.is("LESS of itself", ran(9, 0, new int[] {2, 1, 1, 0}).value(1), 0);
        int[] mark = {0, 3, 0, 1};
        int[][] pairs = {{3, 4}, {4, 3}, {4, 4}, {MIN, MAX}, {MAX, MIN}, {-1, 0}};
        for (int[] q : pairs) {
            Due.is("BELOW " + q[0] + " " + q[1], ran(q[0], q[1], new int[] {5, 1, 2, 2}, mark).value(3),
                    q[0] < q[1] ? 0 : 1);
            Due.is("SAME " + q[0] + " " + q[1], ran(q[0], q[1], new int[] {6, 1, 2, 2}, mark).value(3),
                    q[0] == q[1] ? 0 : 1);
        }
        Due.is("JUMP", ran(0, 0, new int[] {7, 0, 0, 2}, mark).value(3), 0);
    }

    private static void loadAndStoreTakeFourBits() {
        int[] places = {0, 15, 16, 31, -1, MIN, MAX};
        for (int q : places) {
            GuessFetch stored = ran(77, q, new int[] {4, 1, 2, 0});
            for (int m = 0; m < 16; m++) {
                Due.is("STORE at " + q, stored.value(8 + m), m == (q & 15) ? 77 : 0);
            }
            GuessFetch x = new GuessFetch();
            for (int m = 0; m < 16; m++) {
                x.put(8 + m, 1000 + m);
            }
            x.put(2, q);
            x.act(3, 1, 2, 0);
            x.begin();
            x.run(10);
            Due.is("LOAD at " + q, x.value(1), 1000 + (q & 15));
        }
    }

    private static void bySkipsTheHighestBit() {
        int[] values = {0, 1, 2, 5, -1, MIN, MIN + 4, MAX};
        for (int v : values) {
            GuessFetch x = new GuessFetch();
            x.put(4, v);
            x.act(10, 4, 0, 0);
            x.act(11, 0, 0, 0);
            x.act(11, 0, 0, 0);
            x.way(0, 1);
            x.begin();
            x.run(2);
            Due.is("BY of " + v, x.known(), (v & MAX) % 3);
        }
    }

    private static void callAndBack() {
        GuessFetch x = new GuessFetch();
        x.act(8, 0, 0, 3);
        x.act(0, 5, 0, 9);
        x.act(11, 0, 0, 0);
        x.act(9, 0, 0, 0);
        x.way(0, 1);
        x.begin();
        Due.is("CALL is DONE", x.run(2), 1);
        Due.is("stack(0)", x.stack(0), 1);
        Due.is("stack(1)", x.stack(1), -1);
        Due.is("stack(-1)", x.stack(-1), -1);
        Due.is("count(9)", x.count(9), 1);
        Due.is("BACK is DONE", x.run(1), 1);
        Due.is("stack(0) behind BACK", x.stack(0), -1);
        Due.is("the rest", x.run(100), 2);
        Due.is("value(5)", x.value(5), 9);
        long[] path = {0, 3, 1, 2, -1};
        for (int k = 0; k < path.length; k++) {
            Due.is("done(" + k + ")", x.done(k), path[k]);
        }
    }

    private static void theStackHoldsSixteen() {
        GuessFetch x = new GuessFetch();
        x.act(8, 0, 0, 0);
        x.way(0, 1);
        x.begin();
        Due.is("16 CALLS", x.run(5000), 16);
        Due.is("ended()", x.ended(), 2);
        Due.is("CYCLES", x.count(0), 18);
        Due.is("DONE", x.count(1), 16);
        Due.is("TURNS", x.count(4), 16);
        Due.is("WRONG", x.count(2), 1);
        Due.is("dropped", x.count(3), 0);
        Due.is("count(9)", x.count(9), 16);
        for (int k = 0; k < 16; k++) {
            Due.is("stack(" + k + ")", x.stack(k), 1);
        }
        Due.is("stack(16)", x.stack(16), -1);
        Due.is("stack(MAX)", x.stack(MAX), -1);
        Due.is("stack(MIN)", x.stack(MIN), -1);
        Due.is("done(15)", x.done(15), 0);
        Due.is("done(16)", x.done(16), -1);
    }

    private static void backWithoutAny() {
        GuessFetch x = new GuessFetch();
        x.act(9, 0, 0, 0);
        x.act(0, 0, 0, 1);
        x.act(0, 0, 0, 1);
        x.begin();
        Due.is("run(3)", x.run(3), 0);
        Due.is("run(1)", x.run(1), 0);
        Due.is("ended()", x.ended(), 2);
        Due.is("not DONE", x.count(1), 0);
        Due.is("not a TURN that was DONE", x.count(4), 0);
        Due.is("not told as DONE", x.done(0), -1);
        Due.is("dropped are the others", x.count(3), 2);
        Due.is("not WRONG", x.count(2), 0);
        Due.is("nothing FETCHED more", x.count(10), 0);
        Due.is("TARGETS stay", x.table(3, 0), -1);
        Due.is("DONE ever", x.count(13), 0);
    }

    private static void whereNoActIs() {
        GuessFetch none = new GuessFetch();
        none.begin();
        Due.is("no PROGRAM: known()", none.known(), 0);
        Due.is("no PROGRAM: run(5)", none.run(5), 0);
        Due.is("no PROGRAM: ended()", none.ended(), 2);
        Due.is("no PROGRAM: CYCLES", none.count(0), 1);
        Due.is("no PROGRAM: known() then", none.known(), -103);

        GuessFetch x = new GuessFetch();
        x.act(0, 0, 0, 1);
        x.act(7, 0, 0, 60);
        x.way(0, 2);
        x.begin();
        Due.is("run(4)", x.run(4), 2);
        Due.is("under way", x.ended(), 0);
        Due.is("PLACE", x.count(11), 60);
        Due.is("known()", x.known(), 60);
        Due.is("count(10)", x.count(10), 0);
        Due.is("run(9)", x.run(9), 0);
        Due.is("ended()", x.ended(), 2);
        Due.is("CYCLES", x.count(0), 5);
        Due.is("PLACE stays", x.count(11), 60);
    }

    private static void haltIsDoneAndTheRestIsDropped() {
        GuessFetch x = new GuessFetch();
        x.act(11, 0, 0, 0);
        for (int k = 0; k < 9; k++) {
            x.act(0, 0, 0, 7);
        }
        x.way(0, 6);
        x.begin();
        Due.is("run(6)", x.run(6), 0);
        Due.is("six are FETCHED", x.count(10), 6);
        Due.is("run(6) again", x.run(6), 1);
        Due.is("ended()", x.ended(), 1);
        Due.is("CYCLES", x.count(0), 7);
        Due.is("DONE", x.count(1), 1);
        Due.is("done(0)", x.done(0), 0);
        Due.is("dropped", x.count(3), 5);
        Due.is("WRONG", x.count(2), 0);
        Due.is("TURNS", x.count(4), 0);
        Due.is("FETCHED now", x.count(10), 0);
        Due.is("fetched(0)", x.fetched(0), -1);
        Due.is("nothing of the dropped is done", x.value(0), 0);
        Due.is("PLACE", x.count(11), 6);
    }

    private static void cyclesAndDepth() {
        for (int depth = 1; depth <= 6; depth++) {
            GuessFetch x = new GuessFetch();
            for (int p = 0; p < 20; p++) {
                x.act(0, 0, 0, p);
            }
            x.way(0, depth);
            x.begin();
            for (int cycle = 1; cycle <= 12; cycle++) {
                Due.is("DEPTH " + depth + ", CYCLE " + cycle, x.run(1), cycle > depth ? 1 : 0);
                int held = Math.min(cycle, depth);
                Due.is("how many are FETCHED", x.count(10), held);
                for (int k = 0; k < held; k++) {
                    Due.is("fetched(" + k + ")", x.fetched(k), cycle - held + k);
                }
                Due.is("fetched behind the last", x.fetched(held), -1);
                Due.is("fetched(-1)", x.fetched(-1), -1);
                Due.is("known()", x.known(), cycle - held);
                Due.is("CYCLES", x.count(0), cycle);
            }
            Due.is("fetched(MAX)", x.fetched(MAX), -1);
            Due.is("fetched(MIN)", x.fetched(MIN), -1);
        }
    }

    private static void runRefuses() {
        GuessFetch x = new GuessFetch();
        x.act(7, 0, 0, 0);
        int[] wrong = {0, -1, 5001, MIN, MAX};
        for (int n : wrong) {
            Due.is("no run, run(" + n + ")", x.run(n), -102);
        }
        Due.is("no run, run(5000)", x.run(5000), -103);
        x.way(0, 1);
        x.begin();
        for (int n : wrong) {
            Due.is("run(" + n + ")", x.run(n), -102);
        }
        Due.is("nothing was done", x.count(0), 0);
        Due.is("run(5000)", x.run(5000), 4999);
        Due.is("CYCLES", x.count(0), 5000);
        Due.is("run(1)", x.run(1), 1);
    }

    private static void stopBreaksOff() {
        GuessFetch x = new GuessFetch();
        x.act(7, 0, 0, 0);
        x.way(0, 4);
        x.begin();
        x.run(7);
        Due.is("stop()", x.stop(), x.count(1));
        Due.is("DONE", x.count(1), 1);
        Due.is("ended()", x.ended(), 3);
        Due.is("stop() again", x.stop(), -103);
        Due.is("FETCHED now", x.count(10), 0);
        Due.is("fetched(0)", x.fetched(0), -1);
        // cycle 5: WRONG, 0 dropped as no ACT is at 1; FETCHED in 5, 6, 7 are dropped by stop()
        Due.is("dropped", x.count(3), 3);
        Due.is("run(1)", x.run(1), -103);
        x.begin();
        Due.is("stop() at once", x.stop(), 0);
    }

    private static void beginStartsAnew() {
        GuessFetch x = new GuessFetch();
        x.act(0, 1, 0, 4);
        x.act(8, 0, 0, 3);
        x.act(7, 0, 0, 2);
        x.act(11, 0, 0, 0);
        x.harm(6, 0, 9);
        Due.is("begin()", x.begin(), 1);
        Due.is("begin() in a run", x.begin(), -103);
        Due.is("ended() in a run", x.ended(), 0);
        x.run(100);
        Due.is("ended()", x.ended(), 1);
        Due.is("count(9)", x.count(9), 1);
        Due.is("RETURNS are there", x.table(8, 0), 1);
        long wrongBefore = x.count(14);
        Due.is("WRONG ever", wrongBefore, 1);
        Due.is("begin() again", x.begin(), 1);
        for (int what = 0; what <= 11; what++) {
            Due.is("count(" + what + ") at the beginning", x.count(what), 0);
        }
        Due.is("RUNS begun", x.count(12), 2);
        Due.is("DONE ever", x.count(13), 3);
        Due.is("WRONG ever", x.count(14), wrongBefore);
        Due.is("THE STACK is empty", x.stack(0), -1);
        Due.is("RETURNS are empty", x.table(8, 0), 0);
        Due.is("done(0)", x.done(0), -1);
        Due.is("known()", x.known(), 0);
        Due.is("registers stay", x.value(1), 4);
        Due.is("HISTORY stays", x.table(6, 0), 9);
        Due.is("TARGETS stay", x.table(3, 1), 1);
        Due.is("the second run is guessed right", x.run(100), 3);
        Due.is("WRONG", x.count(2), 0);
        Due.is("DONE ever", x.count(13), 6);
        Due.is("in TARGETS", x.count(8), 1);
    }

    private static void doneKeepsThreeHundred() {
        GuessFetch x = new GuessFetch();
        x.act(0, 0, 0, 0);
        x.act(7, 0, 0, 0);
        x.begin();
        x.run(1000);
        Due.isTrue("more than 300 were DONE", x.count(1) > 301);
        Due.is("done(298)", x.done(298), 0);
        Due.is("done(299)", x.done(299), 1);
        Due.is("done(300)", x.done(300), -1);
        Due.is("done(-1)", x.done(-1), -1);
        Due.is("done(MIN)", x.done(MIN), -1);
        Due.is("done(MAX)", x.done(MAX), -1);
    }

    private static void countsOfALoop() {
        GuessFetch x = new GuessFetch();
        x.put(1, 3);
        x.put(2, 1);
        x.act(1, 0, 2, 0);
        x.act(5, 0, 1, 0);
        x.act(7, 0, 0, 4);
        x.act(11, 0, 0, 0);
        x.act(11, 0, 0, 0);
        x.way(0, 1);
        x.begin();
        x.run(5000);
        // 0 1 0 1 0 1 2 4: a BRANCH that turns twice and is WRONG then, a JUMP that is WRONG
        long[] want = {0, 8, 3, 0, 4, 3, 2, 0, 2, 0, 0, 5, 1, 8, 3, 5, 0, 1};
        Due.is("CYCLES", x.count(0), 9);
        for (int what = 1; what < 18; what++) {
            Due.is("count(" + what + ")", x.count(what), want[what]);
        }
        Due.is("count(-1)", x.count(-1), -102);
        Due.is("count(18)", x.count(18), -102);
        Due.is("count(MIN)", x.count(MIN), -102);
        Due.is("count(MAX)", x.count(MAX), -102);
    }

    private static void valueRefuses() {
        GuessFetch x = new GuessFetch();
        x.put(7, -1);
        x.put(8, MIN);
        x.put(23, 5);
        Due.is("value(7)", x.value(7), -1);
        Due.is("value(8)", x.value(8), MIN);
        Due.is("value(23)", x.value(23), 5);
        Due.is("value(-1)", x.value(-1), -101);
        Due.is("value(24)", x.value(24), -101);
        Due.is("value(MIN)", x.value(MIN), -101);
        Due.is("value(MAX)", x.value(MAX), -101);
    }
}
