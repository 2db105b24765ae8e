/** Each sentence of the document about how a RUN ends, and what is left when it has ended. */
final class RunEndsTest {
    private static final int NONE = Make.NONE, STATE = Make.STATE;

    public static void main(String[] args) {
        haltIsDone();
        haltWithNothingBehindIt();
        haltIsNeverWrong();
        faultIsNotDone();
        stopDropsAndCounts();
        stopTellsOfItsRun();
        nothingMoreIsDone();
        runGoesTillTheRunEnds();
        endedTellsTheLatest();
        whatIsOpenAgain();
        whatWasFetchedWronglyEndsNothing();
        whatWasFetchedWronglyDoesNothing();
        everIsOverAllRuns();
        forgetLeavesTheRest();
        harmAtAnyTime();
        Due.end();
    }

    /** "a HALT is DONE"; "all FETCHED ones are dropped, and nothing more is done" */
    private static void haltIsDone() {
        for (int depth = 1; depth <= 6; depth++) {
            GuessFetch x = Make.program(0, depth, Make.times(20, Make.halt()));
            Make.begun(x, depth);
            Due.is("under way", x.ended(), 0);
            Due.is("DEPTH " + depth + ": HALT", x.run(9), 1);
            Due.is("ended()", x.ended(), 1);
            Due.is("DONE", x.count(1), 1);
            Due.is("done(0)", x.done(0), 0);
            Due.is("done(1)", x.done(1), NONE);
            Due.is("CYCLES", x.count(0), depth + 1);
            Due.is("dropped", x.count(3), depth - 1);
            Due.is("FETCHED", x.count(10), 0);
            Due.is("none is FETCHED in that CYCLE", x.count(11), depth);
            Due.is("no TURN", x.count(4), 0);
        }
    }

    private static void haltWithNothingBehindIt() {
        GuessFetch x = Make.begun(Make.program(0, 6, Make.halt()), 100);
        Due.is("ended()", x.ended(), 1);
        Due.is("CYCLES", x.count(0), 7);
        Due.is("dropped", x.count(3), 0);
        Due.is("PLACE", x.count(11), 1);
    }

    /** A HALT goes on to nowhere: whatever its GUESS was, TARGETS, HISTORY and RETURNS are not set back. */
    private static void haltIsNeverWrong() {
        GuessFetch x = Make.program(0, 2, Make.halt(), Make.set(0, 1), Make.set(0, 1));
        Make.known(x, 0, 8, 2);
        Make.begun(x, 100);
        Due.is("ended()", x.ended(), 1);
        Due.is("WRONG", x.count(2), 0);
        Due.is("WRONG ever", x.count(14), 0);
        Due.is("in TARGETS", x.count(8), 1);
        Due.is("TARGET", x.table(5, 0), 2);
        Due.is("kind", x.table(4, 0), 8);
        Due.is("RETURNS as the GUESS left them", x.table(7, 0), 1);
        Due.is("dropped", x.count(3), 1);
    }

    /** "(that ACT does nothing, and is not counted as DONE, nor as dropped; a HALT is DONE)" */
    private static void faultIsNotDone() {
        GuessFetch x = Make.begun(Make.program(0, 6, Make.times(20, Make.back())), 7);
        Due.is("ended()", x.ended(), 2);
        Due.is("DONE", x.count(1), 0);
        Due.is("dropped", x.count(3), 5);
        Due.is("CYCLES", x.count(0), 7);
        Due.is("PLACE", x.count(11), 6);
        Due.is("FETCHED", x.count(10), 0);
    }

    /** "A RUN that is under way is broken off"; "If a RUN ENDS, all FETCHED ones are dropped" */
    private static void stopDropsAndCounts() {
        for (int cycles = 1; cycles <= 9; cycles++) {
            GuessFetch x = Make.program(0, 4, Make.times(20, Make.set(0, 1)));
            Make.begun(x, cycles);
            Due.is("stop() behind " + cycles, x.stop(), Math.max(0, cycles - 4));
            Due.is("ended()", x.ended(), 3);
            Due.is("dropped", x.count(3), Math.min(4, cycles));
            Due.is("FETCHED", x.count(10), 0);
            Due.is("fetched(0)", x.fetched(0), NONE);
            Due.is("CYCLES", x.count(0), cycles);
            Due.is("PLACE", x.count(11), cycles);
            Due.is("DONE stays told", x.count(1), Math.max(0, cycles - 4));
        }
    }

    /** stop(): "how many ACTS were DONE in it": in the RUN, neither in the latest run(..), nor ever */
    private static void stopTellsOfItsRun() {
        GuessFetch x = Make.program(0, 1, Make.times(60, Make.set(0, 1)));
        Make.begun(x, 11);
        Due.is("the first RUN", x.stop(), 10);
        Make.begun(x, 4);
        Due.is("run(3)", x.run(3), 3);
        Due.is("the second RUN", x.stop(), 6);
        Due.is("DONE ever", x.count(13), 16);
    }

    /** "and nothing more is done": HISTORY, RETURNS, THE STACK, REGISTERS stay as they are */
    private static void nothingMoreIsDone() {
        GuessFetch x = Make.program(1, 4, Make.call(2), Make.halt(), Make.halt(), Make.same(0, 0, 9), Make.set(0, 1));
        Make.known(x, 0, 8, 2);
        Make.known(x, 3, 6, 4);
        x.harm(0, 3, 3);
        x.harm(6, 0, 5);
        Make.begun(x, 4);
        Due.is("four are FETCHED", x.count(10), 4);
        Due.is("HISTORY with a guessed bit", x.table(6, 0), 11);
        Due.is("CALL is DONE", x.run(1), 1);
        Due.is("HALT is DONE", x.run(1), 1);
        Due.is("ended()", x.ended(), 1);
        Due.is("the BRANCH is not DONE", x.count(5), 0);
        Due.is("HISTORY stays", x.table(6, 0), 11);
        Due.is("RETURNS stay", x.table(7, 0), 1);
        Due.is("THE STACK stays", x.stack(0), 1);
        Due.is("PLAIN stays", x.table(0, 3), 3);
        Due.is("SET is not DONE", x.value(0), 0);
        Due.is("dropped are the BRANCH and the SET", x.count(3), 2);
    }

    /** run(): "n CYCLES (1 to 5000), or till the RUN ENDS: how many ACTS were DONE" */
    private static void runGoesTillTheRunEnds() {
        GuessFetch x = Make.program(0, 3, Make.set(0, 1), Make.set(0, 2), Make.halt());
        x.begin();
        Due.is("run(4)", x.run(4), 1);
        Due.is("run(1)", x.run(1), 1);
        Due.is("run(5000), the HALT", x.run(5000), 1);
        Due.is("CYCLES", x.count(0), 6);
        Due.is("run(1) then", x.run(1), STATE);
        Due.is("CYCLES stay", x.count(0), 6);
        x.begin();
        Due.is("all at once", x.run(6), 3);
        Due.is("ended()", x.ended(), 1);
    }

    /** "how the latest ended: 1 HALT, 2 FAULT, 3 broken off"; "a RUN is under way (0)" */
    private static void endedTellsTheLatest() {
        GuessFetch x = Make.program(0, 1, Make.halt());
        Due.is("none", x.ended(), NONE);
        Due.is("by HALT", Make.begun(x, 9).ended(), 1);
        Due.is("again under way", Make.begun(x, 0).ended(), 0);
        x.stop();
        Due.is("broken off", x.ended(), 3);
        x.wipe();
        Due.is("wipe() doesn't change it", x.ended(), 3);
        Due.is("by FAULT", Make.begun(x, 9).ended(), 2);
        x.act(11, 0, 0, 0);
        Due.is("act() doesn't change it", x.ended(), 2);
        Due.is("by HALT again", Make.begun(x, 9).ended(), 1);
    }

    /** "the program: while no RUN is under way": behind each end it may be changed, and a RUN may begin */
    private static void whatIsOpenAgain() {
        for (int how = 1; how <= 3; how++) {
            GuessFetch x = Make.program(0, 1, how == 1 ? Make.halt() : how == 2 ? Make.back() : Make.jump(0));
            Make.begun(x, 5);
            if (how == 3) {
                x.stop();
            }
            Due.is("ended()", x.ended(), how);
            Due.is("known()", x.known(), STATE);
            Due.is("stop()", x.stop(), STATE);
            Due.is("act", x.act(0, 0, 0, 0), 1);
            Due.is("put", x.put(0, 5), 0);
            Due.is("way", x.way(2, 2), 1);
            Due.is("forget", x.forget(), 1);
            Due.is("wipe", x.wipe(), 2);
            Due.is("begin", x.begin(), 1);
        }
    }

    /** "what was fetched by a wrong guess is dropped ahead of doing anything": no HALT, no FAULT comes of it */
    private static void whatWasFetchedWronglyEndsNothing() {
        int[][] behind = {Make.halt(), Make.back()};
        for (int[] act : behind) {
            GuessFetch x = Make.program(0, 5, Make.jump(3), act, act, Make.set(0, 4), Make.halt());
            Make.begun(x, 5);
            Due.is("five are FETCHED", x.count(10), 5);
            x.run(1);
            Due.is("four are dropped", x.count(3), 4);
            Due.is("under way", x.ended(), 0);
            Due.is("FETCHED in that CYCLE", x.fetched(0), 3);
            x.run(50);
            Due.is("HALT", x.ended(), 1);
            Due.is("DONE", x.count(1), 3);
            Due.is("value(0)", x.value(0), 4);
        }
    }

    private static void whatWasFetchedWronglyDoesNothing() {
        GuessFetch x = Make.program(0, 6, Make.jump(6), Make.set(0, 1), Make.store(1, 1), Make.call(6), Make.same(0, 0, 1),
                Make.add(1, 1), Make.halt());
        x.put(1, 3);
        Make.begun(x, 100);
        Due.is("WRONG", x.count(2), 1);
        Due.is("dropped", x.count(3), 5);
        Due.is("SET", x.value(0), 0);
        Due.is("STORE", x.value(11), 0);
        Due.is("ADD", x.value(1), 3);
        Due.is("CALL", x.count(9), 0);
        Due.is("BRANCH", x.count(5), 0);
        Due.is("PLAIN", x.table(0, 4), 1);
        Due.is("TARGETS of the CALL", x.table(3, 3), NONE);
        Due.is("DONE", x.count(1), 2);
    }

    /** "ever: 12 RUNS begun, 13 ACTS DONE, 14 WRONG ones" */
    private static void everIsOverAllRuns() {
        GuessFetch x = Make.program(0, 1, Make.jump(2), Make.halt(), Make.same(0, 0, 1));
        for (int run = 1; run <= 5; run++) {
            x.forget();
            Make.begun(x, 100);
            Due.is("RUN " + run + ": RUNS begun", x.count(12), run);
            Due.is("RUN " + run + ": DONE", x.count(1), 3);
            Due.is("RUN " + run + ": DONE ever", x.count(13), 3 * run);
            Due.is("RUN " + run + ": WRONG", x.count(2), 2);
            Due.is("RUN " + run + ": WRONG ever", x.count(14), 2 * run);
            Due.is("RUN " + run + ": BRANCHES", x.count(5), 1);
            Due.is("RUN " + run + ": of these WRONG", x.count(6), 1);
        }
        x.begin();
        x.stop();
        Due.is("one broken off at once is begun, too", x.count(12), 6);
        Due.is("DONE ever stays", x.count(13), 15);
        x.wipe();
        Due.is("and behind wipe()", x.count(14), 10);
    }

    /** forget(): "Counters, TARGETS, HISTORY are as at first": RETURNS and all else stay */
    private static void forgetLeavesTheRest() {
        GuessFetch x = Make.program(3, 2, Make.call(2), Make.halt(), Make.same(0, 0, 1));
        Make.known(x, 0, 8, 2);
        Make.begun(x, 100);
        x.put(4, 44);
        x.harm(6, 0, 12);
        for (int i = 0; i < 16; i++) {
            x.harm(i % 3, i, 3);
        }
        int done = x.count(1);
        Due.is("RETURNS", x.table(8, 0), 1);
        Due.is("forget()", x.forget(), 1);
        for (int i = 0; i < 16; i++) {
            Due.is("counters " + i, x.table(0, i) + 10 * x.table(1, i) + 100 * x.table(2, i), 111);
        }
        for (int i = 0; i < 8; i++) {
            Due.is("ADDRESS " + i, x.table(3, i), NONE);
            Due.is("kind " + i, x.table(4, i), 5);
            Due.is("TARGET " + i, x.table(5, i), 0);
        }
        Due.is("HISTORY", x.table(6, 0), 0);
        Due.is("RETURNS stay", x.table(7, 0), 1);
        Due.is("REGISTERS stay", x.value(4), 44);
        Due.is("THE STACK stays", x.count(9), 1);
        Due.is("counts stay", x.count(1), done);
        Due.is("ACTS stay", x.count(15), 3);
        Due.is("WAY and DEPTH stay", 10 * x.count(16) + x.count(17), 32);
        Due.is("ended() stays", x.ended(), 1);
    }

    /** harm(): "At any time." */
    private static void harmAtAnyTime() {
        GuessFetch x = Make.program(0, 2, Make.call(1), Make.set(0, 1), Make.halt());
        Make.known(x, 0, 8, 1);
        Due.is("before the first RUN", x.harm(0, 5, 3), 1);
        x.begin();
        Due.is("begun", x.harm(0, 5, 2), 3);
        x.run(2);
        Due.is("under way", x.harm(0, 5, 1), 2);
        Due.is("RETURNS under way", x.harm(7, 0, 9), 1);
        x.run(50);
        Due.is("ended", x.ended(), 1);
        Due.is("behind the RUN", x.harm(0, 5, 0), 1);
        Due.is("RETURNS behind the RUN", x.harm(7, 0, 8), 9);
        Due.is("they stand", x.table(7, 0), 8);
    }
}
