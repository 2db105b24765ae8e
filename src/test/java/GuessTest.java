/** Promises 10 to 12 and 20, and part 3: harm, forget, table, digest, how is guessed and learned. */
final class GuessTest {
    private static final int MIN = Integer.MIN_VALUE, MAX = Integer.MAX_VALUE;

    public static void main(String[] args) {
        harmChangesTables();
        harmRefuses();
        tableRefuses();
        forgetSetsBack();
        aPlainActInTargets();
        aBranchByEveryWay();
        tablesGoByAddressModulo();
        aBranchOutOfTargets();
        wrongBranchSetsHistoryBack();
        rightBranchLeavesHistory();
        countersLearn();
        choiceLearns();
        mixedLearnsByHistoryAsKept();
        targetsTakeWhatTurned();
        returnsPushTheEldestOut();
        wrongCallSetsReturnsBack();
        wrongBackTakesOneAway();
        backOfNoneGoesOn();
        byAndJumpGoToTarget();
        digestIsOfAll();
        Due.end();
    }

    private static void target(GuessFetch x, int place, int address, int kind, int goal) {
        x.harm(3, place, address);
        x.harm(4, place, kind);
        x.harm(5, place, goal);
    }

    /** The last cell of each row that harm() reaches, lowest and highest number. */
    private static void harmChangesTables() {
        int[][] cells = {{0, 16, 0, 3, 1}, {1, 16, 0, 3, 1}, {2, 16, 0, 3, 1}, {3, 8, -1, 200, -1},
            {4, 8, 5, 10, 5}, {5, 8, 0, 200, 0}};
        GuessFetch x = new GuessFetch();
        for (int[] row : cells) {
            for (int i = 0; i < row[1]; i++) {
                String call = "harm(" + row[0] + ", " + i + ")";
                Due.is(call, x.harm(row[0], i, row[2]), row[4]);
                Due.is(call + " again", x.harm(row[0], i, row[3]), row[2]);
                Due.is(call + " as table() tells", x.table(row[0], i), row[3]);
                x.harm(row[0], i, i % 2 == 0 ? row[2] : row[3]);
            }
            for (int i = 0; i < row[1]; i++) {
                Due.is("table(" + row[0] + ", " + i + ")", x.table(row[0], i), i % 2 == 0 ? row[2] : row[3]);
            }
        }
        Due.is("harm(6, MIN, 15)", x.harm(6, MIN, 15), 0);
        Due.is("harm(6, MAX, 0)", x.harm(6, MAX, 0), 15);
        Due.is("harm(6, 0, 7)", x.harm(6, 0, 7), 0);
        Due.is("table(6, MAX)", x.table(6, MAX), 7);
        x.begin();
        Due.is("harm in a run", x.harm(0, 0, 2), 0);
        Due.is("table in a run", x.table(0, 0), 2);
    }

    private static void harmRefuses() {
        GuessFetch x = new GuessFetch();
        int[] wrongWhat = {-1, 8, 9, MIN, MAX};
        for (int what : wrongWhat) {
            Due.is("harm(" + what + ", 0, 1)", x.harm(what, 0, 1), -102);
            Due.is("harm(" + what + ", -1, 1)", x.harm(what, -1, 1), -102);
        }
        int[][] rows = {{0, 16, -1, 4}, {1, 16, -1, 4}, {2, 16, -1, 4}, {3, 8, -2, 201}, {4, 8, 4, 11}, {5, 8, -1, 201}};
        for (int[] row : rows) {
            int before = x.table(row[0], 0);
            int[] wrongPlaces = {-1, row[1], MIN, MAX};
            for (int i : wrongPlaces) {
                Due.is("harm(" + row[0] + ", " + i + ", 5)", x.harm(row[0], i, 5), -101);
                Due.is("UNKNOWN first", x.harm(row[0], i, MAX), -101);
            }
            int[] wrongValues = {row[2], row[3], MIN, MAX};
            for (int v : wrongValues) {
                Due.is("harm(" + row[0] + ", 0, " + v + ")", x.harm(row[0], 0, v), -102);
            }
            Due.is("it stands", x.table(row[0], 0), before);
        }
        int[] wrongHistories = {-1, 16, MIN, MAX};
        for (int v : wrongHistories) {
            Due.is("harm(6, 0, " + v + ")", x.harm(6, 0, v), -102);
        }
        Due.is("harm(7, 0, 1) with none", x.harm(7, 0, 1), -101);
        GuessFetch y = withReturns();
        int[] wrongReturns = {-1, 2, 3, 4, MIN, MAX};
        for (int i : wrongReturns) {
            Due.is("harm(7, " + i + ", 1)", y.harm(7, i, 1), -101);
        }
        Due.is("harm(7, 0, -1)", y.harm(7, 0, -1), -102);
        Due.is("harm(7, 1, 201)", y.harm(7, 1, 201), -102);
        Due.is("harm(7, 1, 200)", y.harm(7, 1, 200), 2);
        Due.is("harm(7, 0, 0)", y.harm(7, 0, 0), 1);
        Due.is("table(7, 0)", y.table(7, 0), 0);
        Due.is("table(7, 1)", y.table(7, 1), 200);
    }

    /** A run under way with the RETURNS 1, 2: two CALLS that are in TARGETS are FETCHED. */
    private static GuessFetch withReturns() {
        GuessFetch x = new GuessFetch();
        x.act(8, 0, 0, 1);
        x.act(8, 0, 0, 2);
        target(x, 0, 0, 8, 1);
        target(x, 1, 1, 8, 2);
        x.begin();
        x.run(2);
        return x;
    }

    private static void tableRefuses() {
        GuessFetch x = withReturns();
        int[] wrongWhat = {-1, 9, MIN, MAX};
        for (int what : wrongWhat) {
            Due.is("table(" + what + ", 0)", x.table(what, 0), -102);
            Due.is("table(" + what + ", -1)", x.table(what, -1), -102);
        }
        int[] places = {16, 16, 16, 8, 8, 8, 0, 4};
        for (int what = 0; what <= 7; what++) {
            int[] wrongPlaces = {-1, places[what], MIN, MAX};
            for (int i : wrongPlaces) {
                Due.is("table(" + what + ", " + i + ")", x.table(what, i), what == 6 ? 0 : -101);
            }
        }
        Due.is("table(7, 0)", x.table(7, 0), 1);
        Due.is("table(7, 1)", x.table(7, 1), 2);
        Due.is("table(7, 2)", x.table(7, 2), -1);
        Due.is("table(7, 3)", x.table(7, 3), -1);
        Due.is("table(8, MIN)", x.table(8, MIN), 2);
        Due.is("table(8, MAX)", x.table(8, MAX), 2);
    }

    private static void forgetSetsBack() {
        GuessFetch x = withReturns();
        for (int i = 0; i < 16; i++) {
            x.harm(0, i, 3);
            x.harm(1, i, 2);
            x.harm(2, i, 0);
            x.harm(3, i, 5);
            x.harm(4, i, 9);
            x.harm(5, i, 6);
        }
        x.harm(6, 0, 11);
        Due.is("forget() in a run", x.forget(), -103);
        Due.is("tables stay", x.table(0, 4), 3);
        Due.is("HISTORY stays", x.table(6, 0), 11);
        x.stop();
        Due.is("forget()", x.forget(), 1);
        for (int i = 0; i < 16; i++) {
            Due.is("PLAIN " + i, x.table(0, i), 1);
            Due.is("MIXED " + i, x.table(1, i), 1);
            Due.is("CHOICE " + i, x.table(2, i), 1);
        }
        for (int i = 0; i < 8; i++) {
            Due.is("ADDRESS " + i, x.table(3, i), -1);
            Due.is("kind " + i, x.table(4, i), 5);
            Due.is("TARGET " + i, x.table(5, i), 0);
        }
        Due.is("HISTORY", x.table(6, 0), 0);
        Due.is("RETURNS stay", x.table(8, 0), 2);
    }

    private static void aPlainActInTargets() {
        GuessFetch x = new GuessFetch();
        x.act(0, 0, 0, 7);
        x.act(0, 1, 0, 8);
        x.act(11, 0, 0, 0);
        target(x, 0, 0, 7, 2);
        x.begin();
        x.run(1);
        Due.is("the GUESS is the TARGET", x.count(11), 2);
        Due.is("it was in TARGETS", x.count(8), 1);
        Due.is("run(3)", x.run(3), 1);
        Due.is("WRONG", x.count(2), 1);
        Due.is("dropped", x.count(3), 1);
        Due.is("FETCHED in the same CYCLE", x.fetched(0), 1);
        Due.is("PLACE", x.count(11), 2);
        Due.is("no BRANCH was WRONG", x.count(6), 0);
        Due.is("TARGETS stay", x.table(5, 0), 2);
        Due.is("the rest", x.run(99), 2);
        Due.is("CYCLES", x.count(0), 8);
        Due.is("value(1)", x.value(1), 8);

        GuessFetch far = new GuessFetch();
        far.act(0, 0, 0, 7);
        target(far, 0, 0, 10, 200);
        far.begin();
        far.run(2);
        Due.is("a TARGET without an ACT", far.count(11), 200);
        Due.is("nothing is FETCHED there", far.count(10), 1);
        Due.is("it is DONE", far.run(2), 1);
        Due.is("it was WRONG", far.count(2), 1);
        Due.is("FAULT at 1", far.run(1) + far.ended(), 2);
    }

    /** SAME of r0 and r0 to 3 at ADDRESS 0, in TARGETS: how its FETCH goes on. */
    private static GuessFetch branchFetched(int way, int plain, int mixed, int choice, int history) {
        GuessFetch x = new GuessFetch();
        x.act(6, 0, 0, 3);
        x.act(11, 0, 0, 0);
        x.act(11, 0, 0, 0);
        x.act(11, 0, 0, 0);
        target(x, 0, 0, 6, 3);
        x.harm(0, 0, plain);
        x.harm(1, history, mixed);
        x.harm(2, 0, choice);
        x.harm(6, 0, history);
        x.way(way, 1);
        x.begin();
        x.run(1);
        return x;
    }

    private static void aBranchByEveryWay() {
        for (int plain = 0; plain <= 3; plain++) {
            for (int mixed = 0; mixed <= 3; mixed++) {
                for (int choice = 0; choice <= 3; choice++) {
                    for (int way = 0; way <= 3; way++) {
                        boolean turns = way == 1 && plain > 1 || way == 2 && mixed > 1
                                || way == 3 && (choice > 1 ? mixed > 1 : plain > 1);
                        GuessFetch x = branchFetched(way, plain, mixed, choice, 13);
                        String with = "way " + way + " with " + plain + " " + mixed + " " + choice;
                        Due.is(with, x.count(11), turns ? 3 : 1);
                        Due.is(with + ", HISTORY", x.table(6, 0), turns ? 11 : 10);
                        Due.is(with + ", PLAIN is not learned by FETCH", x.table(0, 0), plain);
                    }
                }
            }
        }
    }

    private static void tablesGoByAddressModulo() {
        GuessFetch x = new GuessFetch();
        x.act(7, 0, 0, 29);
        for (int p = 1; p < 29; p++) {
            x.act(11, 0, 0, 0);
        }
        x.act(6, 0, 0, 40);
        target(x, 0, 0, 7, 29);
        target(x, 5, 13, 6, 3);
        x.harm(6, 0, 6);
        x.way(3, 2);
        x.begin();
        x.run(2);
        Due.is("13 is not 29", x.count(8), 1);
        Due.is("PLACE", x.count(11), 30);
        Due.is("run(2)", x.run(2), 2);
        Due.is("PLAIN at 13", x.table(0, 13), 2);
        Due.is("MIXED at 13 with 6", x.table(1, 11), 2);
        Due.is("CHOICE at 13", x.table(2, 13), 1);
        Due.is("TARGETS at 5", x.table(3, 5), 29);
        Due.is("kind at 5", x.table(4, 5), 6);
        Due.is("TARGET at 5", x.table(5, 5), 40);
        for (int i = 0; i < 16; i++) {
            Due.is("PLAIN " + i, x.table(0, i), i == 13 ? 2 : 1);
            Due.is("MIXED " + i, x.table(1, i), i == 11 ? 2 : 1);
        }
    }

    private static void aBranchOutOfTargets() {
        GuessFetch x = branchFetched(1, 3, 3, 3, 5);
        x.stop();
        target(x, 0, 8, 6, 3);
        x.harm(6, 0, 5);
        x.begin();
        x.run(1);
        Due.is("goes on to p + 1", x.count(11), 1);
        Due.is("HISTORY takes no bit", x.table(6, 0), 5);
        Due.is("not in TARGETS", x.count(8), 0);
        x.run(1);
        Due.is("WRONG", x.count(2), 1);
        Due.is("HISTORY takes what it did", x.table(6, 0), 11);
        Due.is("TARGETS", x.table(3, 0), 0);
    }

    private static void wrongBranchSetsHistoryBack() {
        GuessFetch x = branchFetched(0, 0, 0, 0, 13);
        Due.is("guessed not to turn", x.table(6, 0), 10);
        x.harm(6, 0, 4);
        x.run(1);
        Due.is("WRONG", x.count(6), 1);
        Due.is("13 with a 1 behind it", x.table(6, 0), 11);

        GuessFetch y = new GuessFetch();
        y.act(5, 0, 0, 3);
        y.act(11, 0, 0, 0);
        target(y, 0, 0, 5, 3);
        y.harm(0, 0, 2);
        y.harm(6, 0, 15);
        y.way(1, 1);
        y.begin();
        y.run(1);
        Due.is("guessed to turn", y.table(6, 0), 15);
        y.run(1);
        Due.is("15 with a 0 behind it", y.table(6, 0), 14);
        Due.is("WRONG", y.count(2), 1);
        Due.is("TARGETS are as before: it did not turn", y.table(5, 0), 3);
    }

    private static void rightBranchLeavesHistory() {
        GuessFetch x = branchFetched(1, 2, 0, 0, 4);
        x.harm(6, 0, 2);
        x.run(1);
        Due.is("not WRONG", x.count(2), 0);
        Due.is("HISTORY is as it was harmed", x.table(6, 0), 2);
    }

    private static void countersLearn() {
        for (int v = 0; v <= 3; v++) {
            GuessFetch x = branchFetched(0, v, v, 1, 6);
            x.run(1);
            Due.is("PLAIN one more from " + v, x.table(0, 0), Math.min(3, v + 1));
            Due.is("MIXED one more from " + v, x.table(1, 6), Math.min(3, v + 1));
            Due.is("CHOICE stays", x.table(2, 0), 1);

            GuessFetch y = new GuessFetch();
            y.act(5, 0, 0, 3);
            y.act(11, 0, 0, 0);
            y.harm(0, 0, v);
            y.harm(1, 0, v);
            y.begin();
            y.run(4);
            Due.is("PLAIN one less from " + v, y.table(0, 0), Math.max(0, v - 1));
            Due.is("MIXED one less from " + v, y.table(1, 0), Math.max(0, v - 1));
            Due.is("TARGETS", y.table(3, 0), -1);
        }
    }

    private static void choiceLearns() {
        for (int v = 0; v <= 3; v++) {
            GuessFetch mixedRight = branchFetched(0, 1, 2, v, 6);
            mixedRight.run(1);
            Due.is("MIXED told right, from " + v, mixedRight.table(2, 0), Math.min(3, v + 1));
            GuessFetch plainRight = branchFetched(0, 2, 1, v, 6);
            plainRight.run(1);
            Due.is("PLAIN told right, from " + v, plainRight.table(2, 0), Math.max(0, v - 1));

            GuessFetch y = new GuessFetch();
            y.act(5, 0, 0, 3);
            y.harm(0, 0, 2);
            y.harm(2, 0, v);
            y.begin();
            y.run(4);
            Due.is("MIXED told right that it does not turn, from " + v, y.table(2, 0), Math.min(3, v + 1));
        }
    }

    private static void mixedLearnsByHistoryAsKept() {
        GuessFetch x = branchFetched(0, 1, 1, 1, 9);
        x.harm(6, 0, 3);
        x.run(1);
        Due.is("MIXED at 9", x.table(1, 9), 2);
        Due.is("MIXED at 3", x.table(1, 3), 1);
        Due.is("MIXED at 2, as behind the guess", x.table(1, 2), 1);
    }

    private static void targetsTakeWhatTurned() {
        int[][] acts = {{5, 4}, {6, 4}, {7, 4}, {8, 4}, {10, 2}};
        for (int[] act : acts) {
            GuessFetch x = new GuessFetch();
            x.put(0, 2);
            x.put(1, act[0] == 5 ? 3 : 2);
            x.act(act[0], 0, 1, 4);
            for (int p = 1; p < 5; p++) {
                x.act(11, 0, 0, 0);
            }
            target(x, 0, 8, 9, 33);
            x.way(0, 1);
            x.begin();
            x.run(2);
            Due.is("kind " + act[0] + ": ADDRESS", x.table(3, 0), 0);
            Due.is("kind " + act[0] + ": kind", x.table(4, 0), act[0]);
            Due.is("kind " + act[0] + ": TARGET", x.table(5, 0), act[1]);
            Due.is("kind " + act[0] + ": WRONG", x.count(2), 1);
            Due.is("kind " + act[0] + ": FETCHED", x.fetched(0), act[1]);
        }
        // a BACK, and a TURN whose guess was right all the same
        GuessFetch x = new GuessFetch();
        x.act(8, 0, 0, 1);
        x.act(9, 0, 0, 0);
        x.way(0, 1);
        x.begin();
        x.run(2);
        Due.is("CALL to p + 1: not WRONG", x.count(2), 0);
        Due.is("CALL to p + 1: RETURNS as guessed", x.table(8, 0), 0);
        Due.is("CALL to p + 1: TARGETS", x.table(4, 0), 8);
        x.run(1);
        Due.is("BACK: ADDRESS", x.table(3, 1), 1);
        Due.is("BACK: kind", x.table(4, 1), 9);
        Due.is("BACK: TARGET", x.table(5, 1), 1);
    }

    private static void returnsPushTheEldestOut() {
        GuessFetch x = new GuessFetch();
        for (int p = 0; p < 6; p++) {
            x.act(8, 0, 0, p + 1);
            target(x, p, p, 8, p + 1);
        }
        x.way(0, 6);
        x.begin();
        for (int cycle = 1; cycle <= 6; cycle++) {
            x.run(1);
            Due.is("how many RETURNS", x.table(8, 0), Math.min(cycle, 4));
            for (int k = 0; k < 4; k++) {
                int eldest = Math.max(1, cycle - 3);
                Due.is("CYCLE " + cycle + ": table(7, " + k + ")", x.table(7, k), k < cycle ? eldest + k : -1);
            }
        }
        Due.is("in TARGETS", x.count(8), 6);
        Due.is("THE STACK is as it is known", x.count(9), 0);
    }

    private static void wrongCallSetsReturnsBack() {
        GuessFetch x = new GuessFetch();
        x.act(8, 0, 0, 3);
        x.act(11, 0, 0, 0);
        x.act(11, 0, 0, 0);
        x.act(11, 0, 0, 0);
        target(x, 0, 0, 8, 2);
        x.way(0, 1);
        x.begin();
        x.run(1);
        Due.is("RETURNS at the FETCH", x.table(7, 0), 1);
        x.harm(7, 0, 77);
        x.run(1);
        Due.is("WRONG", x.count(2), 1);
        Due.is("WRONG BACKS", x.count(7), 0);
        Due.is("RETURNS", x.table(8, 0), 1);
        Due.is("as kept, p + 1 behind", x.table(7, 0), 1);

        // a WRONG SET: what was FETCHED behind it has changed RETURNS, and that is taken back
        GuessFetch y = new GuessFetch();
        y.act(0, 0, 0, 0);
        y.act(0, 0, 0, 0);
        y.act(8, 0, 0, 1);
        target(y, 0, 0, 7, 2);
        target(y, 2, 2, 8, 2);
        y.begin();
        y.run(3);
        Due.is("two CALLS came to RETURNS", y.table(8, 0), 2);
        y.run(1);
        Due.is("the SET was WRONG", y.count(2), 1);
        Due.is("RETURNS are as kept", y.table(8, 0), 0);
    }

    private static void wrongBackTakesOneAway() {
        GuessFetch x = new GuessFetch();
        x.act(8, 0, 0, 2);
        x.act(8, 0, 0, 3);
        x.act(7, 0, 0, 1);
        x.act(9, 0, 0, 0);
        target(x, 0, 0, 8, 2);
        target(x, 1, 1, 8, 3);
        target(x, 2, 2, 7, 1);
        x.way(0, 1);
        x.begin();
        x.run(3);
        Due.is("two RETURNS", x.table(8, 0), 2);
        x.harm(7, 1, 50);
        x.harm(3, 3, 3);
        x.harm(4, 3, 9);
        Due.is("CALL is DONE, BACK is FETCHED", x.run(1), 1);
        Due.is("the GUESS is what was harmed", x.count(11), 50);
        Due.is("it went", x.table(8, 0), 1);
        x.run(1);
        Due.is("WRONG", x.count(2), 1);
        Due.is("WRONG BACKS", x.count(7), 1);
        Due.is("as kept, less the latest", x.table(8, 0), 1);
        Due.is("the eldest stays", x.table(7, 0), 1);
        Due.is("FETCHED", x.fetched(0), 2);

        // not in TARGETS, with none to take away
        GuessFetch y = new GuessFetch();
        y.act(8, 0, 0, 1);
        y.act(9, 0, 0, 0);
        y.act(11, 0, 0, 0);
        y.way(0, 1);
        y.begin();
        y.run(3);
        Due.is("BACK to 1 is WRONG", y.count(7), 1);
        Due.is("no RETURNS", y.table(8, 0), 0);
    }

    private static void backOfNoneGoesOn() {
        GuessFetch x = new GuessFetch();
        x.act(0, 0, 0, 0);
        x.act(0, 0, 0, 0);
        target(x, 0, 0, 9, 50);
        x.begin();
        x.run(1);
        Due.is("p + 1 without any", x.count(11), 1);
        Due.is("in TARGETS", x.count(8), 1);
        x.run(3);
        Due.is("not WRONG", x.count(2), 0);
    }

    private static void byAndJumpGoToTarget() {
        int[] kinds = {7, 8, 10};
        for (int kind : kinds) {
            GuessFetch x = new GuessFetch();
            x.act(0, 0, 0, 0);
            target(x, 0, 0, kind, 44);
            x.harm(6, 0, 5);
            x.begin();
            x.run(1);
            Due.is("kind " + kind, x.count(11), 44);
            Due.is("kind " + kind + ", HISTORY", x.table(6, 0), 5);
            Due.is("kind " + kind + ", RETURNS", x.table(8, 0), kind == 8 ? 1 : 0);
        }
    }

    private static void digestIsOfAll() {
        GuessFetch x = withReturns();
        x.run(1);
        Due.is("in a run", x.digest(), digestOf(x));
        x.run(3);
        x.harm(6, 0, 9);
        Due.is("later", x.digest(), digestOf(x));
        GuessFetch y = new GuessFetch();
        Due.is("a new one", y.digest(), digestOf(y));
        y.put(23, -1);
        Due.is("MEMORY", y.digest(), digestOf(y));
        y.act(0, 7, 6, MIN);
        Due.is("an ACT", y.digest(), digestOf(y));
        long before = y.digest();
        Due.is("digest() changes nothing", y.digest(), before);
    }

    /** Promise 20, by the other calls. */
    private static long digestOf(GuessFetch x) {
        long h = 73;
        for (int k = 0; k < 4 * x.count(15); k++) {
            h = 31 * h + x.told(k / 4, k % 4);
        }
        for (int i = 0; i <= 23; i++) {
            h = 31 * h + x.value(i);
        }
        for (int k = 0; x.stack(k) != -1; k++) {
            h = 31 * h + x.stack(k);
        }
        for (int k = 0; k < 48; k++) {
            h = 31 * h + x.table(k / 16, k % 16);
        }
        for (int k = 24; k < 48; k++) {
            h = 31 * h + x.table(k / 8, k % 8);
        }
        h = 31 * h + x.table(6, 0);
        h = 31 * h + x.table(8, 0);
        for (int i = 0; i < x.table(8, 0); i++) {
            h = 31 * h + x.table(7, i);
        }
        for (int k = 0; x.fetched(k) != -1; k++) {
            h = 31 * h + x.fetched(k);
        }
        for (int what = 0; what <= 17; what++) {
            h = 31 * h + x.count(what);
        }
        return h;
    }
}
