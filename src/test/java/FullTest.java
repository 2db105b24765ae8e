/** Each sentence of the document about what is full. */
final class FullTest {
    private static final int NONE = Make.NONE, UNKNOWN = Make.UNKNOWN, FULL = Make.FULL;

    public static void main(String[] args) {
        actIsFullAtSixty();
        wipeMakesRoom();
        callWithSixteenOnTheStack();
        callWithFifteenOnTheStack();
        callWhereBackMadeRoom();
        callThatFaultsDropsTheOthersAlone();
        theStackIsFullOnlyForCalls();
        theFifthFetchedPushesTheEldestOut();
        theFifthBehindAWrongOnePushesTheEldestOut();
        whatWasPushedOutComesBack();
        backThroughFourReturns();
        threeHundredAreKept();
        threeHundredOfTheLatestRun();
        sixAreFetchedAtMost();
        eachFetchedOneKeepsItsOwn();
        Due.end();
    }

    /** act(): "FULL": the 61st */
    private static void actIsFullAtSixty() {
        GuessFetch x = new GuessFetch();
        for (int p = 0; p < 60; p++) {
            Due.is("ACT " + p, x.act(0, 1, 2, p), p);
        }
        Due.is("the 61st", x.act(0, 1, 2, 60), FULL);
        Due.is("of each kind", x.act(11, 0, 0, 0), FULL);
        Due.is("ACTS", x.count(15), 60);
        Due.is("the last stays", x.told(59, 3), 59);
        Due.is("no ACT behind it", x.told(60, 0), UNKNOWN);
    }

    private static void wipeMakesRoom() {
        GuessFetch x = Make.program(0, 1, Make.times(60, Make.halt()));
        Due.is("full", x.act(11, 0, 0, 0), FULL);
        Due.is("wipe()", x.wipe(), 60);
        for (int p = 0; p < 60; p++) {
            Due.is("again ACT " + p, x.act(4, 0, 0, 0), p);
        }
        Due.is("full again", x.act(4, 0, 0, 0), FULL);
    }

    /** "CALL with 16 on THE STACK .. (that ACT does nothing, and is not counted as DONE, nor as dropped ..)" */
    private static void callWithSixteenOnTheStack() {
        GuessFetch x = Make.begun(Make.program(0, 1, Make.call(0)), 18);
        // CYCLE 2 is WRONG and FETCHES again: the k-th CALL is DONE in CYCLE k + 1
        Due.is("DONE", x.count(1), 16);
        Due.is("ended()", x.ended(), 2);
        Due.is("on THE STACK", x.count(9), 16);
        for (int k = 0; k <= 15; k++) {
            Due.is("stack(" + k + ")", x.stack(k), 1);
        }
        Due.is("stack(16)", x.stack(16), NONE);
        Due.is("the 17th is not told", x.done(16), NONE);
        Due.is("TURNS DONE", x.count(4), 16);
        Due.is("DONE ever", x.count(13), 16);
        Due.is("WRONG, the first alone", x.count(2), 1);
        Due.is("dropped", x.count(3), 0);
        Due.is("CYCLES", x.count(0), 18);

        // nor does it come to TARGETS
        GuessFetch y = Make.begun(Make.program(0, 1, Make.call(0)), 17);
        y.harm(3, 0, NONE);
        y.harm(5, 0, 33);
        Due.is("the 17th", y.run(1), 0);
        Due.is("ended()", y.ended(), 2);
        Due.is("ADDRESS stays", y.table(3, 0), NONE);
        Due.is("TARGET stays", y.table(5, 0), 33);
    }

    /** The 16th comes on THE STACK. */
    private static void callWithFifteenOnTheStack() {
        GuessFetch x = Make.begun(Make.program(0, 1, Make.call(0)), 16);
        Due.is("fifteen", x.count(9), 15);
        Due.is("a CALL", x.run(1), 1);
        Due.is("sixteen", x.count(9), 16);
        Due.is("under way", x.ended(), 0);
        Due.is("no more", x.run(1), 0);
        Due.is("FAULT", x.ended(), 2);
    }

    /** With 16 on THE STACK a BACK makes room for one CALL. */
    private static void callWhereBackMadeRoom() {
        GuessFetch x = new GuessFetch();
        for (int p = 0; p <= 14; p++) {
            x.act(8, 0, 0, p + 1);
        }
        x.act(8, 0, 0, 17);
        x.act(8, 0, 0, 18);
        x.act(9, 0, 0, 0);
        x.act(11, 0, 0, 0);
        Make.begun(x, 5000);
        Due.is("HALT", x.ended(), 1);
        Due.is("DONE", x.count(1), 19);
        int[] path = {14, 15, 17, 16, 18};
        for (int k = 0; k < path.length; k++) {
            Due.is("done(" + (14 + k) + ")", x.done(14 + k), path[k]);
        }
        Due.is("on THE STACK", x.count(9), 16);
        Due.is("its top", x.stack(15), 17);
    }

    /** ".. nor as dropped": the others that are FETCHED are. */
    private static void callThatFaultsDropsTheOthersAlone() {
        GuessFetch x = Make.program(0, 4, Make.call(0));
        Make.known(x, 0, 8, 0);
        Make.begun(x, 20);
        Due.is("DONE", x.count(1), 16);
        Due.is("four are FETCHED", x.count(10), 4);
        Due.is("none dropped yet", x.count(3), 0);
        x.run(1);
        Due.is("ended()", x.ended(), 2);
        Due.is("three are dropped", x.count(3), 3);
        Due.is("none is FETCHED", x.count(10), 0);
    }

    /** A full STACK is no FAULT of other ACTS. */
    private static void theStackIsFullOnlyForCalls() {
        GuessFetch x = Make.program(0, 1, Make.add(0, 1), Make.below(0, 2, 3), Make.jump(4), Make.call(0),
                Make.set(5, 9), Make.halt());
        x.put(1, 1);
        x.put(2, 17);
        Make.begun(x, 5000);
        Due.is("HALT", x.ended(), 1);
        Due.is("on THE STACK", x.count(9), 16);
        Due.is("what came behind", x.value(5), 9);
    }

    /** "RETURNS: 0 to 4 ADDRESSES ..; a fifth one pushes the eldest out." */
    private static void theFifthFetchedPushesTheEldestOut() {
        GuessFetch x = new GuessFetch();
        x.way(0, 6);
        for (int p = 0; p < 6; p++) {
            x.act(8, 0, 0, p + 1);
            Make.known(x, p, 8, p + 1);
        }
        Make.begun(x, 4);
        returnsAre("four", x, 1, 2, 3, 4);
        x.run(1);
        returnsAre("a fifth", x, 2, 3, 4, 5);
        x.run(1);
        returnsAre("a sixth", x, 3, 4, 5, 6);
    }

    private static void returnsAre(String name, GuessFetch x, int... due) {
        Due.is(name + ": how many", x.table(8, 0), due.length);
        for (int i = 0; i < 4; i++) {
            Due.is(name + ": table(7, " + i + ")", x.table(7, i), i < due.length ? due[i] : NONE);
        }
    }

    /** Four CALLS that are in TARGETS, one that is not; behind a WRONG one "of a CALL p + 1" comes "to RETURNS". */
    private static void theFifthBehindAWrongOnePushesTheEldestOut() {
        GuessFetch x = new GuessFetch();
        x.way(0, 1);
        for (int p = 0; p < 4; p++) {
            x.act(8, 0, 0, p + 1);
            Make.known(x, p, 8, p + 1);
        }
        x.act(8, 0, 0, 6);
        x.act(11, 0, 0, 0);
        x.act(11, 0, 0, 0);
        Make.begun(x, 5);
        returnsAre("four are kept", x, 1, 2, 3, 4);
        x.run(1);
        Due.is("WRONG", x.count(2), 1);
        returnsAre("the fifth", x, 2, 3, 4, 5);
    }

    /** "RETURNS are as kept with it": with the eldest that a later CALL has pushed out */
    private static void whatWasPushedOutComesBack() {
        GuessFetch x = new GuessFetch();
        x.way(0, 2);
        for (int p = 0; p < 4; p++) {
            x.act(8, 0, 0, p + 1);
            Make.known(x, p, 8, p + 1);
        }
        x.act(0, 0, 0, 1);
        Make.known(x, 4, 7, 6);
        x.act(11, 0, 0, 0);
        x.act(8, 0, 0, 7);
        Make.known(x, 6, 8, 7);
        Make.begun(x, 6);
        returnsAre("a fifth by a wrong GUESS", x, 2, 3, 4, 7);
        x.run(1);
        Due.is("WRONG", x.count(2), 1);
        returnsAre("as kept", x, 1, 2, 3, 4);
    }

    /** Of five CALLS the BACKS find four RETURNS; the fifth BACK goes on to p + 1. */
    private static void backThroughFourReturns() {
        GuessFetch x = new GuessFetch();
        x.way(0, 6);
        for (int p = 0; p <= 45; p++) {
            boolean isCall = p % 9 == 0 && p <= 36;
            x.act(isCall ? 8 : 9, 0, 0, isCall ? p + 9 : 0);
            if (isCall) {
                Make.known(x, p, 8, p + 9);
            }
        }
        Make.begun(x, 5);
        returnsAre("five CALLS", x, 10, 19, 28, 37);
        Due.is("PLACE", x.count(11), 45);
        int[] places = {37, 28, 19, 10, 11};
        int at = 45;
        for (int place : places) {
            Make.known(x, at, 9, 0);
            x.run(1);
            Due.is("BACK at " + at, x.count(11), place);
            at = place;
        }
        returnsAre("behind the BACKS", x);
    }

    /** "(the first 300 are kept)" */
    private static void threeHundredAreKept() {
        GuessFetch x = Make.program(0, 1, Make.set(0, 1), Make.set(1, 1), Make.jump(1));
        Make.known(x, 2, 7, 1);
        Make.begun(x, 300);
        Due.is("299 are DONE", x.count(1), 299);
        Due.is("done(298)", x.done(298), 2);
        Due.is("done(299)", x.done(299), NONE);
        x.run(1);
        Due.is("done(299) of 300", x.done(299), 1);
        x.run(2);
        Due.is("302 are DONE", x.count(1), 302);
        Due.is("done(299) stays", x.done(299), 1);
        Due.is("done(300)", x.done(300), NONE);
        Due.is("done(301)", x.done(301), NONE);
        x.run(5000);
        Due.is("the first stay: done(0)", x.done(0), 0);
        for (int k = 1; k < 300; k++) {
            Due.is("done(" + k + ")", x.done(k), k % 2 == 1 ? 1 : 2);
        }
        Due.is("all are counted", x.count(1), 5302);
    }

    private static void threeHundredOfTheLatestRun() {
        GuessFetch x = Make.program(0, 1, Make.set(0, 1), Make.jump(0));
        Make.known(x, 1, 7, 0);
        Make.begun(x, 1000);
        x.stop();
        Due.is("done(299) behind the RUN", x.done(299), 1);
        x.begin();
        Due.is("a new RUN: done(0)", x.done(0), NONE);
        Due.is("a new RUN: done(299)", x.done(299), NONE);
        x.run(400);
        Due.is("it keeps 300, too", x.done(299), 1);
        Due.is("and no more", x.done(300), NONE);
    }

    /** "DEPTH is 1 to 6": at most as many are FETCHED */
    private static void sixAreFetchedAtMost() {
        GuessFetch x = Make.program(0, 6, Make.times(60, Make.set(0, 1)));
        x.begin();
        for (int cycle = 1; cycle <= 40; cycle++) {
            x.run(1);
            int held = Math.min(6, cycle);
            Due.is("how many", x.count(10), held);
            Due.is("the eldest", x.fetched(0), cycle - held);
            Due.is("the latest", x.fetched(held - 1), cycle - 1);
            Due.is("no more", x.fetched(held), NONE);
        }
    }

    /**
     * "what HISTORY and RETURNS are is kept with it": with each of as many as DEPTH lets be FETCHED. CALLS and
     * BRANCHES in turn, all guessed right, but for one JUMP that is not in TARGETS.
     */
    private static void eachFetchedOneKeepsItsOwn() {
        for (int depth = 1; depth <= 6; depth++) {
            for (int wrongAt = 0; wrongAt <= 14; wrongAt++) {
                GuessFetch x = new GuessFetch();
                x.way(1, depth);
                for (int p = 0; p < 60; p++) {
                    x.act(p == wrongAt ? 7 : p % 2 == 0 ? 8 : 6, 0, 0, p == wrongAt ? 50 : p + 1);
                    x.harm(0, p % 16, 3);
                }
                x.begin();
                for (int p = 0; p < wrongAt + depth; p++) {
                    if (p != wrongAt) {
                        Make.known(x, p, p % 2 == 0 ? 8 : 6, p + 1);
                    }
                    x.run(1);
                }
                String name = "DEPTH " + depth + ", WRONG at " + wrongAt;
                Due.is(name + ": none yet", x.count(2), 0);
                Due.is(name + ": FETCHED", x.count(10), depth);
                x.run(1);
                Due.is(name, x.count(2), 1);
                Due.is(name + ": FETCHED then", x.fetched(0), 50);
                Due.is(name + ": dropped", x.count(3), depth - 1);
                Due.is(name + ": HISTORY", x.table(6, 0), (1 << Math.min(4, wrongAt / 2)) - 1);
                int calls = (wrongAt + 1) / 2;
                int[] due = new int[Math.min(4, calls)];
                for (int k = 0; k < due.length; k++) {
                    due[k] = 2 * (calls - due.length + k) + 1;
                }
                returnsAre(name, x, due);
            }
        }
    }
}
