/** Each sentence of the document that says how small or how large a number may be: its last and its first beyond. */
final class TooSmallTooLargeTest {
    private static final int NONE = Make.NONE, UNKNOWN = Make.UNKNOWN, OUTSIDE = Make.OUTSIDE,
            MIN = Make.MIN, MAX = Make.MAX;

    public static void main(String[] args) {
        noActsAreAProgram();
        sixtyActsAreAProgram();
        theKindOfAnAct();
        theRegistersOfAnAct();
        theGoalOfATurn();
        theLastGoals();
        numbersOfRegistersAreInts();
        belowIsNotTheSame();
        theWay();
        theDepth();
        theDepthAsCyclesPass();
        theCyclesOfARun();
        whatOfHarm();
        countersByHarm();
        targetsByHarm();
        historyByHarm();
        returnsByHarm();
        addressZeroIsNotNone();
        whatOfTable();
        placesOfTable();
        placesOfPut();
        placesOfValue();
        actsOfTold();
        whatOfCount();
        countersAreThreeAtMost();
        countersAreZeroAtLeast();
        aCounterOfTwoTurns();
        Due.end();
    }

    /** "THE PROGRAM has 0 to 60 ACTS" */
    private static void noActsAreAProgram() {
        GuessFetch x = new GuessFetch();
        Due.is("0 ACTS: begin()", x.begin(), 1);
        Due.is("0 ACTS: run(1)", x.run(1), 0);
        Due.is("0 ACTS: ended()", x.ended(), 2);
    }

    /** "THE PROGRAM has 0 to 60 ACTS, numbered from 0 on" */
    private static void sixtyActsAreAProgram() {
        GuessFetch x = new GuessFetch();
        x.way(0, 1);
        for (int p = 0; p < 60; p++) {
            Due.is("ACT " + p, x.act(0, p % 8, 0, p), p);
        }
        x.begin();
        Due.is("60 ACTS are DONE", x.run(5000), 60);
        Due.is("the last", x.done(59), 59);
        Due.is("what the last did", x.value(3), 59);
        Due.is("behind the last no ACT is", x.ended(), 2);
        Due.is("PLACE behind the last", x.count(11), 60);
        Due.is("CYCLES", x.count(0), 62);
    }

    /** "an ACT is a kind": 0 SET to 11 HALT. "OUTSIDE: kind" */
    private static void theKindOfAnAct() {
        GuessFetch x = new GuessFetch();
        for (int kind : new int[] {-1, 12, -12, MIN, MAX}) {
            Due.is("kind " + kind, x.act(kind, 0, 0, 0), OUTSIDE);
        }
        Due.is("kind 0", x.act(0, 0, 0, 0), 0);
        Due.is("kind 11", x.act(11, 0, 0, 0), 1);
        Due.is("told(0, 0)", x.told(0, 0), 0);
        Due.is("told(1, 0)", x.told(1, 0), 11);
        Due.is("no other came", x.count(15), 2);
    }

    /** "OUTSIDE: .. a or b (of any kind)": also of those that don't look at them. */
    private static void theRegistersOfAnAct() {
        for (int kind = 0; kind <= 11; kind++) {
            GuessFetch x = new GuessFetch();
            for (int r : new int[] {-1, 8, MIN, MAX}) {
                Due.is("kind " + kind + ", a " + r, x.act(kind, r, 0, 0), OUTSIDE);
                Due.is("kind " + kind + ", b " + r, x.act(kind, 0, r, 0), OUTSIDE);
                Due.is("kind " + kind + ", a and b " + r, x.act(kind, r, r, 0), OUTSIDE);
            }
            Due.is("no ACT came", x.count(15), 0);
            Due.is("kind " + kind + ", a 0, b 7", x.act(kind, 0, 7, 0), 0);
            Due.is("kind " + kind + ", a 7, b 0", x.act(kind, 7, 0, 0), 1);
        }
    }

    /** "OUTSIDE: .. c of a TURN (5 to 8) below 0 or above 60"; of other kinds c is any int. */
    private static void theGoalOfATurn() {
        for (int kind = 5; kind <= 8; kind++) {
            GuessFetch x = new GuessFetch();
            for (int c : new int[] {-1, 61, MIN, MAX}) {
                Due.is("kind " + kind + ", c " + c, x.act(kind, 0, 0, c), OUTSIDE);
            }
            Due.is("kind " + kind + ", c 0", x.act(kind, 0, 0, 0), 0);
            Due.is("kind " + kind + ", c 60", x.act(kind, 0, 0, 60), 1);
            Due.is("told c", x.told(1, 3), 60);
        }
        for (int kind : new int[] {0, 1, 2, 3, 4, 9, 10, 11}) {
            GuessFetch x = new GuessFetch();
            int[] free = {-1, 61, MIN, MAX};
            for (int p = 0; p < free.length; p++) {
                Due.is("kind " + kind + ", c " + free[p], x.act(kind, 0, 0, free[p]), p);
                Due.is("kind " + kind + ", told c", x.told(p, 3), free[p]);
            }
        }
    }

    /** c 60 is a place where no ACT can be; c 59 is the last ACT of a PROGRAM of 60. */
    private static void theLastGoals() {
        for (int c = 59; c <= 60; c++) {
            GuessFetch x = new GuessFetch();
            x.act(7, 0, 0, c);
            for (int p = 1; p < 60; p++) {
                x.act(11, 0, 0, 0);
            }
            x.begin();
            Due.is("JUMP to " + c, x.run(5000), c == 59 ? 2 : 1);
            Due.is("JUMP to " + c + ": ended()", x.ended(), c == 59 ? 1 : 2);
            Due.is("JUMP to " + c + ": TARGET", x.table(5, 0), c);
        }
    }

    /** "REGISTERS 0 to 7, ints", "MEMORY has 16 ints" */
    private static void numbersOfRegistersAreInts() {
        GuessFetch x = Make.program(0, 1, Make.set(0, MIN), Make.set(7, MAX), Make.store(0, 6), Make.halt());
        Make.begun(x, 100);
        Due.is("SET to the least int", x.value(0), MIN);
        Due.is("SET to the most int", x.value(7), MAX);
        Due.is("STORE of the least int", x.value(8), MIN);
    }

    /** "BELOW: to c, if r[a] is below r[b]": not if they are the same. */
    private static void belowIsNotTheSame() {
        int[][] pairs = {{4, 5, 1}, {5, 5, 0}, {6, 5, 0}, {-1, 0, 1}, {0, -1, 0}, {MIN, MAX, 1}, {MAX, MIN, 0}, {MIN, MIN, 0}};
        for (int[] pair : pairs) {
            GuessFetch x = Make.program(0, 1, Make.below(0, 1, 2), Make.set(7, 1), Make.halt());
            x.put(0, pair[0]);
            x.put(1, pair[1]);
            Make.begun(x, 100);
            Due.is(pair[0] + " below " + pair[1], 1 - x.value(7), pair[2]);
        }
    }

    /** "The WAY (0 to 3)" */
    private static void theWay() {
        GuessFetch x = new GuessFetch();
        for (int way : new int[] {-1, 4, MIN, MAX}) {
            Due.is("way(" + way + ", 3)", x.way(way, 3), OUTSIDE);
        }
        Due.is("WAY stays", x.count(16), 0);
        Due.is("way(3, 3)", x.way(3, 3), 1);
        Due.is("WAY 3", x.count(16), 3);
        Due.is("way(0, 3)", x.way(0, 3), 1);
        Due.is("WAY 0", x.count(16), 0);
    }

    /** "DEPTH is 1 to 6" */
    private static void theDepth() {
        GuessFetch x = new GuessFetch();
        for (int depth : new int[] {0, 7, -1, MIN, MAX}) {
            Due.is("way(1, " + depth + ")", x.way(1, depth), OUTSIDE);
        }
        Due.is("DEPTH stays", x.count(17), 3);
        Due.is("WAY stays, too", x.count(16), 0);
        Due.is("way(1, 1)", x.way(1, 1), 1);
        Due.is("DEPTH 1", x.count(17), 1);
        Due.is("way(1, 6)", x.way(1, 6), 1);
        Due.is("DEPTH 6", x.count(17), 6);
    }

    /** "an ACT that was fetched DEPTH CYCLES ago is DONE": not one CYCLE sooner or later. */
    private static void theDepthAsCyclesPass() {
        for (int depth = 1; depth <= 6; depth++) {
            GuessFetch x = Make.program(0, depth, Make.times(20, Make.set(0, 1)));
            x.begin();
            Due.is("DEPTH " + depth + ": none DONE yet", x.run(depth), 0);
            Due.is("DEPTH " + depth + ": the first", x.run(1), 1);
            Due.is("DEPTH " + depth + ": CYCLE", x.count(0), depth + 1);
            Due.is("DEPTH " + depth + ": FETCHED", x.count(10), depth);
            Due.is("DEPTH " + depth + ": one in each CYCLE", x.run(5), 5);
        }
    }

    /** "n CYCLES (1 to 5000)" */
    private static void theCyclesOfARun() {
        GuessFetch x = Make.program(0, 1, Make.jump(0));
        Make.known(x, 0, 7, 0);
        x.begin();
        for (int n : new int[] {0, 5001, -1, MIN, MAX}) {
            Due.is("run(" + n + ")", x.run(n), OUTSIDE);
        }
        Due.is("no CYCLE passed", x.count(0), 0);
        Due.is("run(1)", x.run(1), 0);
        Due.is("one CYCLE passed", x.count(0), 1);
        Due.is("run(5000)", x.run(5000), 5000);
        Due.is("5000 more passed", x.count(0), 5001);
    }

    /** "what = 0 .. 7": "OUTSIDE: what" */
    private static void whatOfHarm() {
        GuessFetch x = withReturns(1);
        for (int what : new int[] {-1, 8, 9, MIN, MAX}) {
            Due.is("harm(" + what + ", 0, 1)", x.harm(what, 0, 1), OUTSIDE);
        }
        Due.is("harm(0, 15, 1)", x.harm(0, 15, 1), 1);
        Due.is("harm(7, 0, 1)", x.harm(7, 0, 1), 1);
    }

    /** "the counter at i becomes v (0 to 3)"; PLAIN[16], MIXED[16], CHOICE[16] */
    private static void countersByHarm() {
        for (int what = 0; what <= 2; what++) {
            String row = "harm(" + what + ", ";
            GuessFetch x = new GuessFetch();
            for (int i : new int[] {-1, 16, MIN, MAX}) {
                Due.is(row + i + ", 0)", x.harm(what, i, 0), UNKNOWN);
            }
            for (int v : new int[] {-1, 4, MIN, MAX}) {
                Due.is(row + "0, " + v + ")", x.harm(what, 0, v), OUTSIDE);
                Due.is(row + "15, " + v + ")", x.harm(what, 15, v), OUTSIDE);
            }
            for (int i = 0; i <= 15; i += 15) {
                Due.is(row + i + ", 0)", x.harm(what, i, 0), 1);
                Due.is(row + i + ", 3)", x.harm(what, i, 3), 0);
                Due.is("it stands", x.table(what, i), 3);
            }
            Due.is("others stay", x.table(what, 1) + x.table(what, 14), 2);
        }
    }

    /** "3 the ADDRESS, 4 the kind (5 to 10), 5 the TARGET at i of TARGETS (ADDRESS, TARGET 0 to 200; ADDRESS -1: NONE)" */
    private static void targetsByHarm() {
        int[][] rows = {{3, -1, 200, NONE}, {4, 5, 10, 5}, {5, 0, 200, 0}};
        for (int[] row : rows) {
            String call = "harm(" + row[0] + ", ";
            GuessFetch x = new GuessFetch();
            for (int i : new int[] {-1, 8, MIN, MAX}) {
                Due.is(call + i + ", 7)", x.harm(row[0], i, 7), UNKNOWN);
            }
            for (int v : new int[] {row[1] - 1, row[2] + 1, MIN, MAX}) {
                Due.is(call + "0, " + v + ")", x.harm(row[0], 0, v), OUTSIDE);
                Due.is(call + "7, " + v + ")", x.harm(row[0], 7, v), OUTSIDE);
            }
            for (int i = 0; i <= 7; i += 7) {
                Due.is(call + i + ") the most", x.harm(row[0], i, row[2]), row[3]);
                Due.is(call + i + ") the least", x.harm(row[0], i, row[1]), row[2]);
                Due.is("it stands", x.table(row[0], i), row[1]);
            }
        }
        GuessFetch x = new GuessFetch();
        Due.is("ADDRESS 0", x.harm(3, 2, 0), NONE);
        Due.is("ADDRESS NONE again", x.harm(3, 2, NONE), 0);
    }

    /** "6 HISTORY (0 to 15; i is not looked at)" */
    private static void historyByHarm() {
        GuessFetch x = new GuessFetch();
        for (int v : new int[] {-1, 16, MIN, MAX}) {
            Due.is("harm(6, 0, " + v + ")", x.harm(6, 0, v), OUTSIDE);
        }
        int was = 0;
        for (int i : new int[] {0, -1, 1, 16, 200, MIN, MAX}) {
            Due.is("harm(6, " + i + ", 15)", x.harm(6, i, 15), was);
            Due.is("table(6, " + i + ")", x.table(6, i), 15);
            Due.is("harm(6, " + i + ", 0)", x.harm(6, i, 0), 15);
        }
    }

    /** A RUN under way with so many RETURNS (1 to 4): 1, 2, 3, 4; as many CALLS are FETCHED, none is DONE. */
    private static GuessFetch withReturns(int many) {
        GuessFetch x = new GuessFetch();
        x.way(0, 6);
        for (int p = 0; p < many; p++) {
            x.act(8, 0, 0, p + 1);
            Make.known(x, p, 8, p + 1);
        }
        return Make.begun(x, many);
    }

    /** "7 the i-th of RETURNS (0: the eldest; 0 to 200)" */
    private static void returnsByHarm() {
        for (int many = 1; many <= 4; many++) {
            GuessFetch x = withReturns(many);
            String with = "with " + many + " RETURNS: harm(7, ";
            for (int i : new int[] {-1, many, 4, MIN, MAX}) {
                Due.is(with + i + ", 0)", x.harm(7, i, 0), UNKNOWN);
            }
            for (int v : new int[] {-1, 201, MIN, MAX}) {
                Due.is(with + "0, " + v + ")", x.harm(7, 0, v), OUTSIDE);
            }
            for (int i = 0; i < many; i++) {
                Due.is(with + i + ", 200)", x.harm(7, i, 200), i + 1);
                Due.is(with + i + ", 0)", x.harm(7, i, 0), 200);
                Due.is("it stands", x.table(7, i), 0);
            }
            Due.is("as many as before", x.table(8, 0), many);
        }
    }

    /** "ADDRESS .. 0 to 200; ADDRESS -1: NONE": the ADDRESS 0 is one, and NONE is none. */
    private static void addressZeroIsNotNone() {
        GuessFetch x = Make.program(0, 1, Make.set(0, 0), Make.halt());
        Make.target(x, 0, 0, 7, 200);
        Make.begun(x, 1);
        Due.is("ADDRESS 0 is found", x.count(8), 1);
        Due.is("and goes to the last TARGET", x.count(11), 200);
        GuessFetch y = Make.program(0, 1, Make.set(0, 0), Make.halt());
        Make.target(y, 0, NONE, 7, 200);
        Make.begun(y, 1);
        Due.is("NONE is not found", y.count(8), 0);
        Due.is("and goes to p + 1", y.count(11), 1);
    }

    /** "OUTSIDE: what" of table(), that knows an 8 */
    private static void whatOfTable() {
        GuessFetch x = withReturns(2);
        for (int what : new int[] {-1, 9, MIN, MAX}) {
            Due.is("table(" + what + ", 0)", x.table(what, 0), OUTSIDE);
        }
        Due.is("table(0, 0)", x.table(0, 0), 1);
        Due.is("table(8, 0)", x.table(8, 0), 2);
    }

    /** "of RETURNS (7; i is 0 to 3) NONE: there is none. 8: .. (i is not looked at)"; "UNKNOWN: i" */
    private static void placesOfTable() {
        GuessFetch x = withReturns(4);
        int[] places = {16, 16, 16, 8, 8, 8, 0, 4};
        int[] last = {1, 1, 1, NONE, 5, 0, 0, 4};
        for (int what : new int[] {0, 1, 2, 3, 4, 5, 7}) {
            for (int i : new int[] {-1, places[what], MIN, MAX}) {
                Due.is("table(" + what + ", " + i + ")", x.table(what, i), UNKNOWN);
            }
            Due.is("the last of " + what, x.table(what, places[what] - 1), last[what]);
        }
        for (int i : new int[] {-1, 0, 4, 16, MIN, MAX}) {
            Due.is("table(6, " + i + ")", x.table(6, i), 0);
            Due.is("table(8, " + i + ")", x.table(8, i), 4);
        }
        GuessFetch y = withReturns(1);
        Due.is("one RETURN: table(7, 0)", y.table(7, 0), 1);
        for (int i = 1; i <= 3; i++) {
            Due.is("one RETURN: table(7, " + i + ")", y.table(7, i), NONE);
        }
        Due.is("one RETURN: table(7, 4)", y.table(7, 4), UNKNOWN);
    }

    /** "A REGISTER (0 to 7), or MEMORY (8 + its place) becomes v": "UNKNOWN" */
    private static void placesOfPut() {
        GuessFetch x = new GuessFetch();
        for (int i : new int[] {-1, 24, MIN, MAX}) {
            Due.is("put(" + i + ", 5)", x.put(i, 5), UNKNOWN);
        }
        for (int i : new int[] {0, 7, 8, 23}) {
            Due.is("put(" + i + ", MIN)", x.put(i, MIN), 0);
            Due.is("put(" + i + ", MAX)", x.put(i, MAX), MIN);
            Due.is("put(" + i + ", -101)", x.put(i, -101), MAX);
            Due.is("put(" + i + ", 0)", x.put(i, 0), -101);
        }
        x.put(7, 70);
        x.put(8, 80);
        GuessFetch y = Make.program(0, 1, Make.load(6, 5), Make.store(7, 5), Make.halt());
        y.put(5, 15);
        y.put(7, 70);
        y.put(23, 99);
        Make.begun(y, 50);
        Due.is("MEMORY 15 is at 23", y.value(6), 99);
        Due.is("and is told there", y.value(23), 70);
    }

    /** "A REGISTER (0 to 7), MEMORY (8 to 23), as a long. UNKNOWN." */
    private static void placesOfValue() {
        GuessFetch x = new GuessFetch();
        x.put(0, MIN);
        x.put(7, 7);
        x.put(8, 8);
        x.put(23, MAX);
        for (int i : new int[] {-1, 24, MIN, MAX}) {
            Due.is("value(" + i + ")", x.value(i), UNKNOWN);
        }
        Due.is("value(0)", x.value(0), MIN);
        Due.is("value(7)", x.value(7), 7);
        Due.is("value(8)", x.value(8), 8);
        Due.is("value(23)", x.value(23), MAX);
    }

    /** "Of an ACT: what = 0 kind, 1 a, 2 b, 3 c. UNKNOWN; OUTSIDE." */
    private static void actsOfTold() {
        GuessFetch x = new GuessFetch();
        for (int p = 0; p < 60; p++) {
            x.act(4, 1, 2, 3000 + p);
        }
        for (int p : new int[] {-1, 60, MIN, MAX}) {
            Due.is("told(" + p + ", 0)", x.told(p, 0), UNKNOWN);
        }
        for (int what : new int[] {-1, 4, MIN, MAX}) {
            Due.is("told(0, " + what + ")", x.told(0, what), OUTSIDE);
            Due.is("told(59, " + what + ")", x.told(59, what), OUTSIDE);
        }
        Due.is("told(0, 0)", x.told(0, 0), 4);
        Due.is("told(0, 3)", x.told(0, 3), 3000);
        Due.is("told(59, 0)", x.told(59, 0), 4);
        Due.is("told(59, 3)", x.told(59, 3), 3059);
    }

    /** count(): 0 CYCLES .. 17 DEPTH. "OUTSIDE." */
    private static void whatOfCount() {
        GuessFetch x = Make.begun(Make.program(2, 4, Make.jump(0)), 3);
        for (int what : new int[] {-1, 18, -103, MIN, MAX}) {
            Due.is("count(" + what + ")", x.count(what), OUTSIDE);
        }
        Due.is("count(0)", x.count(0), 3);
        Due.is("count(17)", x.count(17), 4);
    }

    /** A BRANCH at 0 that turns, or doesn't, FETCHED with HISTORY 0 and DONE. */
    private static GuessFetch branchDone(boolean turns, int plain, int mixed, int choice) {
        GuessFetch x = Make.program(0, 1, turns ? Make.same(0, 0, 2) : Make.below(0, 0, 2), Make.halt(), Make.halt());
        x.harm(0, 0, plain);
        x.harm(1, 0, mixed);
        x.harm(2, 0, choice);
        return Make.begun(x, 2);
    }

    /** "one more if it turned .. (3 at most ..)"; of CHOICE "one more, if MIXED told right" */
    private static void countersAreThreeAtMost() {
        GuessFetch x = branchDone(true, 3, 3, 3);
        Due.is("PLAIN 3, one more", x.table(0, 0), 3);
        Due.is("MIXED 3, one more", x.table(1, 0), 3);
        Due.is("CHOICE, both told the same", x.table(2, 0), 3);
        GuessFetch y = branchDone(true, 2, 2, 0);
        Due.is("PLAIN 2, one more", y.table(0, 0), 3);
        Due.is("MIXED 2, one more", y.table(1, 0), 3);
        GuessFetch z = branchDone(true, 0, 0, 0);
        Due.is("PLAIN 0, one more", z.table(0, 0), 1);
        Due.is("MIXED 0, one more", z.table(1, 0), 1);
        Due.is("CHOICE 0, one more", branchDone(true, 1, 2, 0).table(2, 0), 1);
        Due.is("CHOICE 3, one more", branchDone(true, 1, 2, 3).table(2, 0), 3);
        Due.is("CHOICE 2, one more", branchDone(true, 1, 2, 2).table(2, 0), 3);
    }

    /** "one less if not (.. 0 at least)"; of CHOICE "else one less" */
    private static void countersAreZeroAtLeast() {
        GuessFetch x = branchDone(false, 0, 0, 0);
        Due.is("PLAIN 0, one less", x.table(0, 0), 0);
        Due.is("MIXED 0, one less", x.table(1, 0), 0);
        Due.is("CHOICE, both told the same", x.table(2, 0), 0);
        GuessFetch y = branchDone(false, 1, 1, 3);
        Due.is("PLAIN 1, one less", y.table(0, 0), 0);
        Due.is("MIXED 1, one less", y.table(1, 0), 0);
        GuessFetch z = branchDone(false, 3, 3, 3);
        Due.is("PLAIN 3, one less", z.table(0, 0), 2);
        Due.is("MIXED 3, one less", z.table(1, 0), 2);
        Due.is("CHOICE 3, one less", branchDone(false, 1, 2, 3).table(2, 0), 2);
        Due.is("CHOICE 0, one less", branchDone(false, 1, 2, 0).table(2, 0), 0);
        Due.is("CHOICE 1, one less", branchDone(false, 1, 2, 1).table(2, 0), 0);
    }

    /** "to turn, if its counter is 2 or 3"; "by MIXED, if that of CHOICE is 2 or 3, else by PLAIN" */
    private static void aCounterOfTwoTurns() {
        for (int v = 0; v <= 3; v++) {
            int goes = v >= 2 ? 30 : 1;
            Due.is("WAY 0, all " + v, branchFetched(0, v, v, v), 1);
            Due.is("WAY 1, PLAIN " + v, branchFetched(1, v, 3 - v, 0), goes);
            Due.is("WAY 2, MIXED " + v, branchFetched(2, 3 - v, v, 0), goes);
            Due.is("WAY 3, CHOICE " + v + " between them", branchFetched(3, 0, 3, v), goes);
            Due.is("WAY 3, PLAIN " + v, branchFetched(3, v, 3 - v, 1), goes);
            Due.is("WAY 3, MIXED " + v, branchFetched(3, 3 - v, v, 2), goes);
        }
    }

    private static int branchFetched(int way, int plain, int mixed, int choice) {
        GuessFetch x = Make.program(way, 1, Make.below(0, 0, 2));
        Make.target(x, 0, 0, 5, 30);
        x.harm(0, 0, plain);
        x.harm(1, 0, mixed);
        x.harm(2, 0, choice);
        return Make.begun(x, 1).count(11);
    }
}
