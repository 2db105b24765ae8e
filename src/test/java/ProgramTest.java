/** Promises 1 to 5 and 18: a new object, act, wipe, put, way, told. */
final class ProgramTest {
    private static final int MIN = Integer.MIN_VALUE, MAX = Integer.MAX_VALUE;

    public static void main(String[] args) {
        aNewObject();
        actTakesEveryKind();
        actRefusesNumbers();
        actRefusesInOrder();
        actIsFullAtSixty();
        wipeEmpties();
        putChangesRegistersAndMemory();
        wayTakesWayAndDepth();
        toldOfActs();
        Due.end();
    }

    private static void aNewObject() {
        GuessFetch x = new GuessFetch();
        for (int i = 0; i < 24; i++) {
            Due.is("new: value(" + i + ")", x.value(i), 0);
        }
        for (int what = 0; what < 17; what++) {
            Due.is("new: count(" + what + ")", x.count(what), 0);
        }
        Due.is("new: count(17)", x.count(17), 3);
        Due.is("new: ended()", x.ended(), -1);
        Due.is("new: known()", x.known(), -103);
        Due.is("new: run(1)", x.run(1), -103);
        Due.is("new: stop()", x.stop(), -103);
        Due.is("new: done(0)", x.done(0), -1);
        Due.is("new: fetched(0)", x.fetched(0), -1);
        Due.is("new: stack(0)", x.stack(0), -1);
        Due.is("new: told(0, 0)", x.told(0, 0), -101);
        for (int what = 0; what <= 2; what++) {
            for (int i = 0; i < 16; i++) {
                Due.is("new: table(" + what + ", " + i + ")", x.table(what, i), 1);
            }
        }
        for (int i = 0; i < 8; i++) {
            Due.is("new: table(3, " + i + ")", x.table(3, i), -1);
            Due.is("new: table(4, " + i + ")", x.table(4, i), 5);
            Due.is("new: table(5, " + i + ")", x.table(5, i), 0);
        }
        Due.is("new: table(6, 0)", x.table(6, 0), 0);
        Due.is("new: table(8, 0)", x.table(8, 0), 0);
    }

    private static void actTakesEveryKind() {
        GuessFetch x = new GuessFetch();
        for (int kind = 0; kind <= 11; kind++) {
            Due.is("act of kind " + kind, x.act(kind, 7, 0, 60), kind);
        }
        Due.is("act(5, 0, 7, 0)", x.act(5, 0, 7, 0), 12);
        // c is looked at of the kinds 5 to 8 alone
        int[] free = {0, 1, 2, 3, 4, 9, 10, 11};
        for (int i = 0; i < free.length; i++) {
            Due.is("c free, kind " + free[i], x.act(free[i], 0, 0, i % 2 == 0 ? MIN : MAX), 13 + i);
        }
        Due.is("count(15)", x.count(15), 21);
    }

    private static void actRefusesNumbers() {
        GuessFetch x = new GuessFetch();
        int[] wrongKinds = {-1, 12, MIN, MAX};
        int[] wrongRegisters = {-1, 8, MIN, MAX};
        int[] wrongGoals = {-1, 61, MIN, MAX};
        for (int kind : wrongKinds) {
            Due.is("act of kind " + kind, x.act(kind, 0, 0, 0), -102);
        }
        for (int r : wrongRegisters) {
            for (int kind = 0; kind <= 11; kind++) {
                Due.is("act(" + kind + ", " + r + ", 0, 0)", x.act(kind, r, 0, 0), -102);
                Due.is("act(" + kind + ", 0, " + r + ", 0)", x.act(kind, 0, r, 0), -102);
            }
        }
        for (int c : wrongGoals) {
            for (int kind = 5; kind <= 8; kind++) {
                Due.is("act(" + kind + ", 0, 0, " + c + ")", x.act(kind, 0, 0, c), -102);
            }
        }
        Due.is("nothing came", x.count(15), 0);
    }

    private static void actRefusesInOrder() {
        GuessFetch x = new GuessFetch();
        for (int p = 0; p < 60; p++) {
            x.act(7, 0, 0, 0);
        }
        Due.is("full, OUTSIDE first", x.act(12, 0, 0, 0), -102);
        x.begin();
        Due.is("run under way, OUTSIDE first", x.act(7, 0, 0, 61), -102);
        Due.is("run under way and full: STATE first", x.act(7, 0, 0, 0), -103);
        x.stop();
        Due.is("full", x.act(7, 0, 0, 0), -104);
        Due.is("nothing came", x.count(15), 60);
    }

    private static void actIsFullAtSixty() {
        GuessFetch x = new GuessFetch();
        for (int p = 0; p < 60; p++) {
            Due.is("act " + p, x.act(0, p % 8, (p + 3) % 8, p * 11), p);
        }
        Due.is("the 61st", x.act(0, 0, 0, 0), -104);
        for (int p = 0; p < 60; p++) {
            Due.is("told(" + p + ", 1)", x.told(p, 1), p % 8);
            Due.is("told(" + p + ", 2)", x.told(p, 2), (p + 3) % 8);
            Due.is("told(" + p + ", 3)", x.told(p, 3), p * 11);
        }
    }

    private static void wipeEmpties() {
        GuessFetch x = new GuessFetch();
        Due.is("wipe() of none", x.wipe(), 0);
        x.act(0, 1, 0, 5);
        x.act(11, 0, 0, 0);
        x.harm(0, 3, 2);
        x.begin();
        Due.is("wipe() in a run", x.wipe(), -103);
        Due.is("it stands", x.count(15), 2);
        x.run(100);
        Due.is("wipe()", x.wipe(), 2);
        Due.is("told(0, 0)", x.told(0, 0), -101);
        Due.is("count(15)", x.count(15), 0);
        Due.is("registers stay", x.value(1), 5);
        Due.is("tables stay", x.table(0, 3), 2);
        Due.is("what was done stays", x.done(1), 1);
        Due.is("act behind wipe()", x.act(3, 1, 2, 0), 0);
        Due.is("told(0, 0) behind wipe()", x.told(0, 0), 3);
    }

    private static void putChangesRegistersAndMemory() {
        GuessFetch x = new GuessFetch();
        for (int i = 0; i < 24; i++) {
            Due.is("put(" + i + ")", x.put(i, 100 + i), 0);
        }
        for (int i = 0; i < 24; i++) {
            Due.is("put again(" + i + ")", x.put(i, i % 2 == 0 ? MIN : MAX), 100 + i);
            Due.is("value(" + i + ")", x.value(i), i % 2 == 0 ? MIN : MAX);
        }
        Due.is("put(-1)", x.put(-1, 1), -101);
        Due.is("put(24)", x.put(24, 1), -101);
        Due.is("put(MIN)", x.put(MIN, 1), -101);
        Due.is("put(MAX)", x.put(MAX, 1), -101);
        x.begin();
        Due.is("put in a run", x.put(0, 1), -103);
        Due.is("put in a run, UNKNOWN first", x.put(24, 1), -101);
        Due.is("it stands", x.value(0), MIN);
    }

    private static void wayTakesWayAndDepth() {
        GuessFetch x = new GuessFetch();
        for (int way = 0; way <= 3; way++) {
            for (int depth = 1; depth <= 6; depth++) {
                Due.is("way(" + way + ", " + depth + ")", x.way(way, depth), 1);
                Due.is("count(16)", x.count(16), way);
                Due.is("count(17)", x.count(17), depth);
            }
        }
        int[][] wrong = {{-1, 3}, {4, 3}, {MIN, 3}, {MAX, 3}, {0, 0}, {0, 7}, {0, MIN}, {0, MAX}};
        for (int[] w : wrong) {
            Due.is("way(" + w[0] + ", " + w[1] + ")", x.way(w[0], w[1]), -102);
        }
        x.begin();
        Due.is("way in a run", x.way(0, 1), -103);
        Due.is("way in a run, OUTSIDE first", x.way(4, 1), -102);
        Due.is("count(16)", x.count(16), 3);
        Due.is("count(17)", x.count(17), 6);
    }

    private static void toldOfActs() {
        GuessFetch x = new GuessFetch();
        x.act(0, 7, 6, -5);
        x.act(8, 1, 2, 60);
        long[][] want = {{0, 7, 6, -5}, {8, 1, 2, 60}};
        for (int p = 0; p < 2; p++) {
            for (int what = 0; what < 4; what++) {
                Due.is("told(" + p + ", " + what + ")", x.told(p, what), want[p][what]);
            }
        }
        Due.is("told(1, -1)", x.told(1, -1), -102);
        Due.is("told(1, 4)", x.told(1, 4), -102);
        Due.is("told(1, MIN)", x.told(1, MIN), -102);
        Due.is("told(1, MAX)", x.told(1, MAX), -102);
        Due.is("told(2, 0)", x.told(2, 0), -101);
        Due.is("told(-1, 0)", x.told(-1, 0), -101);
        Due.is("told(MIN, 0)", x.told(MIN, 0), -101);
        Due.is("told(MAX, 0)", x.told(MAX, 0), -101);
        Due.is("told(2, 4): UNKNOWN first", x.told(2, 4), -101);
    }
}
