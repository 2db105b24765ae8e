import java.math.BigInteger;

/** Each sentence of the document about what is empty, or about one that isn't there. */
final class EmptyTest {
    private static final int NONE = Make.NONE, UNKNOWN = Make.UNKNOWN, STATE = Make.STATE,
            MIN = Make.MIN, MAX = Make.MAX;

    public static void main(String[] args) {
        aNewObjectIsEmpty();
        endedBeforeTheFirstRun();
        wipeOfNoActs();
        noActsAndNoneFetched();
        noneFetchedButAnActAtPlace();
        noActAtPlaceButOneFetched();
        noActAtPlaceButTheGuessWasWrong();
        noActWhereATurnGoes();
        backWithNone();
        backWithNoneBehindOthers();
        backFetchedWithoutReturns();
        backFetchedWithTheLastReturn();
        theLatestGoesIfThereIsOne();
        stackOfNone();
        doneOfNone();
        fetchedOfNone();
        returnsOfNone();
        targetsOfNone();
        knownWithNoneFetched();
        stopWithNothingDone();
        wrongWithNothingToDrop();
        beginEmpties();
        toldOfNoProgram();
        digestOfNothing();
        Due.end();
    }

    /** "No PROGRAM; REGISTERS, MEMORY 0; WAY 0, DEPTH 3; no RUN." and all that is "at first" */
    private static void aNewObjectIsEmpty() {
        GuessFetch x = new GuessFetch();
        for (int i = 0; i <= 23; i++) {
            Due.is("value(" + i + ")", x.value(i), 0);
        }
        for (int what = 0; what <= 16; what++) {
            Due.is("count(" + what + ")", x.count(what), 0);
        }
        Due.is("DEPTH", x.count(17), 3);
        for (int i = 0; i <= 15; i++) {
            Due.is("PLAIN " + i, x.table(0, i), 1);
            Due.is("MIXED " + i, x.table(1, i), 1);
            Due.is("CHOICE " + i, x.table(2, i), 1);
        }
        for (int i = 0; i <= 7; i++) {
            Due.is("ADDRESS " + i, x.table(3, i), NONE);
            Due.is("kind " + i, x.table(4, i), 5);
            Due.is("TARGET " + i, x.table(5, i), 0);
        }
        Due.is("HISTORY", x.table(6, 0), 0);
        Due.is("RETURNS", x.table(8, 0), 0);
        Due.is("forget() of what is as at first", x.forget(), 1);
        Due.is("nothing came of it", x.digest(), new GuessFetch().digest());
    }

    /** ended(): "NONE: there was none." */
    private static void endedBeforeTheFirstRun() {
        GuessFetch x = new GuessFetch();
        Due.is("a new one: ended()", x.ended(), NONE);
        x.act(11, 0, 0, 0);
        Due.is("run(1)", x.run(1), STATE);
        Due.is("stop()", x.stop(), STATE);
        Due.is("known()", x.known(), STATE);
        Due.is("still: ended()", x.ended(), NONE);
        x.begin();
        Due.is("under way: ended()", x.ended(), 0);
    }

    /** wipe(): "how many ACTS it had": 0 of none */
    private static void wipeOfNoActs() {
        GuessFetch x = new GuessFetch();
        Due.is("wipe() of none", x.wipe(), 0);
        x.act(11, 0, 0, 0);
        Due.is("wipe() of one", x.wipe(), 1);
        Due.is("wipe() again", x.wipe(), 0);
        Due.is("ACTS", x.count(15), 0);
        Due.is("the next is the first", x.act(9, 0, 0, 0), 0);
        x.begin();
        x.stop();
        x.wipe();
        x.begin();
        Due.is("a RUN of what was wiped", x.run(10), 0);
        Due.is("is a FAULT", x.ended(), 2);
    }

    /** "A RUN ENDS, too (FAULT), in a CYCLE at whose beginning none is FETCHED and no ACT is at PLACE." */
    private static void noActsAndNoneFetched() {
        GuessFetch x = new GuessFetch();
        x.begin();
        Due.is("begun: ended()", x.ended(), 0);
        Due.is("run(7)", x.run(7), 0);
        Due.is("ended()", x.ended(), 2);
        Due.is("in its first CYCLE", x.count(0), 1);
        Due.is("nothing DONE", x.count(1), 0);
        Due.is("nothing dropped", x.count(3), 0);
        Due.is("PLACE", x.count(11), 0);
        Due.is("run(1)", x.run(1), STATE);
    }

    /** ".. none is FETCHED and no ACT is at PLACE": with an ACT there it goes on. */
    private static void noneFetchedButAnActAtPlace() {
        GuessFetch x = Make.program(0, 1, Make.set(0, 5));
        x.begin();
        Due.is("none is FETCHED", x.count(10), 0);
        x.run(1);
        Due.is("it goes on", x.ended(), 0);
        Due.is("FETCHED", x.fetched(0), 0);
    }

    /** ".. at whose beginning none is FETCHED ..": while one is, CYCLES pass; also the one in which it is DONE. */
    private static void noActAtPlaceButOneFetched() {
        for (int depth = 1; depth <= 6; depth++) {
            GuessFetch x = Make.program(0, depth, Make.set(0, 5));
            x.begin();
            for (int cycle = 1; cycle <= depth; cycle++) {
                Due.is("CYCLE " + cycle, x.run(1), 0);
                Due.is("one is FETCHED", x.count(10), 1);
                Due.is("it goes on", x.ended(), 0);
            }
            Due.is("it is DONE", x.run(1), 1);
            Due.is("none is FETCHED, no ACT at PLACE", x.count(10), 0);
            Due.is("yet that CYCLE began with one", x.ended(), 0);
            Due.is("the next CYCLE", x.run(1), 0);
            Due.is("is a FAULT", x.ended(), 2);
            Due.is("CYCLES", x.count(0), depth + 2);
            Due.is("DONE", x.count(1), 1);
        }
    }

    /** A wrong GUESS to where no ACT is, is no FAULT. */
    private static void noActAtPlaceButTheGuessWasWrong() {
        GuessFetch x = Make.program(0, 3, Make.set(0, 5), Make.halt());
        Make.target(x, 0, 0, 7, 200);
        Make.begun(x, 3);
        Due.is("PLACE", x.count(11), 200);
        Due.is("FETCHED", x.count(10), 1);
        Due.is("WRONG", x.run(1) + x.count(2), 2);
        Due.is("FETCHED in the same CYCLE", x.fetched(0), 1);
        Due.is("it goes on", x.ended(), 0);
        x.run(50);
        Due.is("HALT", x.ended(), 1);
    }

    /** "2 FAULT: where no ACT is": a TURN to there is DONE, what would be there is not. */
    private static void noActWhereATurnGoes() {
        int[][] turns = {Make.same(0, 0, 60), Make.jump(60), Make.call(60), Make.jump(1)};
        for (int[] turn : turns) {
            GuessFetch x = Make.begun(Make.program(0, 1, turn), 100);
            Due.is("kind " + turn[0] + " to " + turn[3] + ": DONE", x.count(1), 1);
            Due.is("it is told", x.done(0), 0);
            Due.is("no more is", x.done(1), NONE);
            Due.is("ended()", x.ended(), 2);
            Due.is("TURNS DONE", x.count(4), 1);
            Due.is("WRONG", x.count(2), turn[3] == 60 ? 1 : 0);
            Due.is("PLACE", x.count(11), turn[3]);
        }
        // a BACK behind the last ACT
        GuessFetch x = Make.begun(Make.program(0, 2, Make.jump(2), Make.back(), Make.call(1)), 100);
        Due.is("BACK to 3: DONE", x.count(1), 3);
        Due.is("BACK to 3: ended()", x.ended(), 2);
        Due.is("BACK to 3: PLACE", x.count(11), 3);
    }

    /** "BACK with none (that ACT does nothing, and is not counted as DONE, nor as dropped ..)" */
    private static void backWithNone() {
        GuessFetch x = Make.program(1, 3, Make.back(), Make.set(0, 1), Make.set(1, 1), Make.set(2, 1), Make.set(3, 1));
        x.harm(6, 0, 9);
        x.begin();
        Due.is("three are FETCHED", x.run(3) + x.count(10), 3);
        Due.is("BACK is not DONE", x.run(1), 0);
        Due.is("ended()", x.ended(), 2);
        Due.is("ACTS DONE", x.count(1), 0);
        Due.is("done(0)", x.done(0), NONE);
        Due.is("ACTS DONE ever", x.count(13), 0);
        Due.is("TURNS DONE", x.count(4), 0);
        Due.is("not WRONG", x.count(2) + x.count(7) + x.count(14), 0);
        Due.is("two others are dropped, it is not", x.count(3), 2);
        Due.is("FETCHED", x.count(10), 0);
        Due.is("nothing more is FETCHED", x.count(11), 3);
        Due.is("TARGETS", x.table(3, 0), NONE);
        Due.is("HISTORY", x.table(6, 0), 9);
        Due.is("THE STACK", x.count(9), 0);
        for (int i = 0; i <= 3; i++) {
            Due.is("value(" + i + ")", x.value(i), 0);
        }
    }

    /** A second BACK for one CALL has none. */
    private static void backWithNoneBehindOthers() {
        GuessFetch x = Make.begun(Make.program(0, 2, Make.call(1), Make.back()), 100);
        Due.is("CALL and one BACK are DONE", x.count(1), 2);
        Due.is("the second is not told", x.done(2), NONE);
        Due.is("ended()", x.ended(), 2);
        Due.is("TURNS DONE", x.count(4), 2);
        Due.is("BACKS WRONG", x.count(7), 1);
        Due.is("PLACE", x.count(11), 2);
    }

    /** "BACK: to the latest of RETURNS, that goes; p + 1 without any." */
    private static void backFetchedWithoutReturns() {
        GuessFetch x = Make.program(3, 4, Make.times(5, Make.set(0, 1)));
        Make.target(x, 0, 0, 9, 50);
        Make.target(x, 1, 1, 9, 50);
        x.harm(6, 0, 6);
        Make.begun(x, 1);
        Due.is("in TARGETS", x.count(8), 1);
        Due.is("p + 1, not the TARGET", x.count(11), 1);
        x.run(1);
        Due.is("in TARGETS", x.count(8), 2);
        Due.is("p + 1 again", x.count(11), 2);
        Due.is("still no RETURNS", x.table(8, 0), 0);
        Due.is("HISTORY stays", x.table(6, 0), 6);
        x.run(4);
        Due.is("as it was so, it is not WRONG", x.count(2), 0);
    }

    /** ".. to the latest of RETURNS, that goes": then there is none for the next. */
    private static void backFetchedWithTheLastReturn() {
        GuessFetch x = Make.program(0, 6, Make.times(60, Make.set(0, 1)));
        Make.known(x, 0, 8, 20);
        Make.known(x, 20, 9, 0);
        Make.known(x, 1, 9, 50);
        Make.begun(x, 1);
        Due.is("CALL to", x.count(11), 20);
        Due.is("one RETURN", x.table(8, 0), 1);
        x.harm(7, 0, 1);
        x.run(1);
        Due.is("BACK to it", x.count(11), 1);
        Due.is("it goes", x.table(8, 0), 0);
        Due.is("table(7, 0)", x.table(7, 0), NONE);
        x.run(1);
        Due.is("the next BACK to p + 1", x.count(11), 2);
        Due.is("in TARGETS", x.count(8), 3);
    }

    /** WRONG: "of a BACK the latest one goes (if there is one)" */
    private static void theLatestGoesIfThereIsOne() {
        GuessFetch none = Make.begun(Make.program(0, 1, Make.call(1), Make.back(), Make.halt()), 3);
        Due.is("BACK is WRONG", none.count(7), 1);
        Due.is("no RETURN was kept, none goes", none.table(8, 0), 0);
        Due.is("it goes on", none.ended(), 0);

        // the first CALL is guessed, and comes to RETURNS; the BACK is not in TARGETS
        GuessFetch one = Make.program(0, 1, Make.call(2), Make.halt(), Make.back());
        Make.known(one, 0, 8, 2);
        Make.begun(one, 2);
        Due.is("one RETURN is kept", one.table(8, 0), 1);
        one.run(1);
        Due.is("BACK is WRONG", one.count(7), 1);
        Due.is("it goes", one.table(8, 0), 0);
        Due.is("and the program goes on there", one.fetched(0), 1);

        GuessFetch two = Make.program(0, 1, Make.call(2), Make.halt(), Make.call(4), Make.halt(), Make.back());
        Make.known(two, 0, 8, 2);
        Make.known(two, 2, 8, 4);
        Make.begun(two, 3);
        Due.is("two RETURNS are kept", two.table(8, 0), 2);
        two.run(1);
        Due.is("BACK is WRONG", two.count(7), 1);
        Due.is("one goes", two.table(8, 0), 1);
        Due.is("the latest, not the eldest", two.table(7, 0), 1);
    }

    /** stack(): "(0: the lowest); NONE." */
    private static void stackOfNone() {
        GuessFetch x = Make.program(0, 1, Make.call(1), Make.call(2), Make.back(), Make.halt());
        for (int k : new int[] {0, -1, 1, 16, MIN, MAX}) {
            Due.is("a new one: stack(" + k + ")", x.stack(k), NONE);
        }
        Make.begun(x, 3);
        Due.is("stack(0)", x.stack(0), 1);
        Due.is("stack(1)", x.stack(1), 2);
        for (int k : new int[] {2, -1, 15, 16, MIN, MAX}) {
            Due.is("of two: stack(" + k + ")", x.stack(k), NONE);
        }
        x.run(1);
        Due.is("BACK takes the top", x.stack(1), NONE);
        Due.is("and leaves the lowest", x.stack(0), 1);
        x.stop();
        Due.is("it stays behind the RUN", x.stack(0), 1);
        x.begin();
        Due.is("begin() empties it", x.stack(0), NONE);
    }

    /** done(): ".. of the k-th ACT that was DONE in the latest RUN ..; NONE." */
    private static void doneOfNone() {
        GuessFetch x = Make.program(0, 2, Make.set(0, 1), Make.halt());
        for (int k : new int[] {0, -1, 299, 300, MIN, MAX}) {
            Due.is("a new one: done(" + k + ")", x.done(k), NONE);
        }
        Make.begun(x, 2);
        Due.is("none DONE yet", x.done(0), NONE);
        x.run(20);
        Due.is("done(0)", x.done(0), 0);
        Due.is("done(1)", x.done(1), 1);
        for (int k : new int[] {2, -1, 299, 300, MIN, MAX}) {
            Due.is("of two: done(" + k + ")", x.done(k), NONE);
        }
        x.begin();
        Due.is("of the latest RUN alone", x.done(0), NONE);
    }

    /** fetched(): "(0: the eldest); NONE." */
    private static void fetchedOfNone() {
        GuessFetch x = Make.program(0, 3, Make.set(0, 1), Make.set(0, 1), Make.halt());
        for (int k : new int[] {0, -1, 5, 6, MIN, MAX}) {
            Due.is("a new one: fetched(" + k + ")", x.fetched(k), NONE);
        }
        x.begin();
        Due.is("begun: fetched(0)", x.fetched(0), NONE);
        x.run(2);
        Due.is("fetched(0)", x.fetched(0), 0);
        Due.is("fetched(1)", x.fetched(1), 1);
        for (int k : new int[] {2, -1, 5, 6, MIN, MAX}) {
            Due.is("of two: fetched(" + k + ")", x.fetched(k), NONE);
        }
        x.run(20);
        Due.is("behind HALT: fetched(0)", x.fetched(0), NONE);
    }

    /** "of RETURNS (7; i is 0 to 3) NONE: there is none"; harm(): "UNKNOWN: i" of one that isn't there */
    private static void returnsOfNone() {
        GuessFetch x = new GuessFetch();
        for (int i = 0; i <= 3; i++) {
            Due.is("table(7, " + i + ")", x.table(7, i), NONE);
            Due.is("harm(7, " + i + ", 5)", x.harm(7, i, 5), UNKNOWN);
            Due.is("still table(7, " + i + ")", x.table(7, i), NONE);
        }
        Due.is("table(8, 0)", x.table(8, 0), 0);
    }

    /** TARGETS: "an ADDRESS (NONE at first)": no ACT is in them, the one at 0 with TARGET 0 neither. */
    private static void targetsOfNone() {
        GuessFetch x = Make.program(0, 6, Make.times(9, Make.set(0, 1)));
        for (int i = 0; i <= 7; i++) {
            x.harm(4, i, 7);
        }
        Make.begun(x, 6);
        Due.is("none was in TARGETS", x.count(8), 0);
        Due.is("each went on to p + 1", x.count(11), 6);
    }

    /** known(): "the ADDRESS of the eldest FETCHED one, or PLACE" */
    private static void knownWithNoneFetched() {
        GuessFetch x = Make.program(0, 1, Make.set(0, 1), Make.jump(40));
        x.begin();
        Due.is("begun: PLACE", x.known(), 0);
        x.run(1);
        Due.is("the eldest", x.known(), 0);
        Due.is("not PLACE", x.count(11), 1);
        x.run(2);
        Due.is("none FETCHED", x.count(10), 0);
        Due.is("PLACE, where no ACT is", x.known(), 40);
        x.run(1);
        Due.is("no RUN", x.known(), STATE);
    }

    /** stop(): "how many ACTS were DONE in it" */
    private static void stopWithNothingDone() {
        GuessFetch x = Make.program(0, 6, Make.set(0, 1), Make.halt());
        x.begin();
        Due.is("stop() at once", x.stop(), 0);
        Due.is("ended()", x.ended(), 3);
        Due.is("CYCLES", x.count(0), 0);
        Due.is("none was FETCHED, none is dropped", x.count(3), 0);
        Due.is("stop() again", x.stop(), STATE);
        Due.is("of no PROGRAM, too", Make.begun(new GuessFetch(), 0).stop(), 0);
    }

    /** "all FETCHED ones are dropped": none, if none is */
    private static void wrongWithNothingToDrop() {
        GuessFetch x = Make.begun(Make.program(0, 1, Make.jump(2), Make.set(0, 1), Make.halt()), 2);
        Due.is("WRONG", x.count(2), 1);
        Due.is("dropped", x.count(3), 0);
        Due.is("FETCHED", x.fetched(0), 2);
        GuessFetch y = Make.begun(Make.program(0, 2, Make.jump(2), Make.set(0, 1), Make.halt()), 3);
        Due.is("DEPTH 2: dropped", y.count(3), 1);
        Due.is("DEPTH 2: FETCHED", y.fetched(0), 2);
        Due.is("DEPTH 2: no other", y.fetched(1), NONE);
    }

    /** begin(): "THE STACK empty, nothing FETCHED, counts 0 but those that are told ever; .. RETURNS are empty" */
    private static void beginEmpties() {
        GuessFetch x = Make.program(0, 2, Make.call(2), Make.halt(), Make.call(0));
        Make.known(x, 0, 8, 2);
        Make.begun(x, 5);
        Due.isTrue("THE STACK has some", x.count(9) > 0);
        Due.isTrue("RETURNS has some", x.table(8, 0) > 0);
        Due.isTrue("some are FETCHED", x.count(10) > 0);
        int done = x.count(1);
        int wrong = x.count(2);
        Due.is("a WRONG one", wrong, 1);
        x.stop();
        Due.isTrue("RETURNS stay behind the RUN", x.table(8, 0) > 0);
        x.begin();
        for (int what = 0; what <= 11; what++) {
            Due.is("count(" + what + ")", x.count(what), 0);
        }
        Due.is("RUNS begun ever", x.count(12), 2);
        Due.is("DONE ever", x.count(13), done);
        Due.is("WRONG ever", x.count(14), wrong);
        Due.is("stack(0)", x.stack(0), NONE);
        Due.is("fetched(0)", x.fetched(0), NONE);
        Due.is("done(0)", x.done(0), NONE);
        Due.is("RETURNS", x.table(8, 0), 0);
        Due.is("table(7, 0)", x.table(7, 0), NONE);
        Due.is("tables stay", x.table(3, 2), 2);
    }

    /** told(): "UNKNOWN" of an ACT that isn't there */
    private static void toldOfNoProgram() {
        GuessFetch x = new GuessFetch();
        Due.is("told(0, 0)", x.told(0, 0), UNKNOWN);
        x.act(3, 1, 2, 4);
        Due.is("told(0, 0) of one", x.told(0, 0), 3);
        Due.is("told(1, 0) of one", x.told(1, 0), UNKNOWN);
        x.wipe();
        Due.is("told(0, 0) behind wipe()", x.told(0, 0), UNKNOWN);
    }

    /** digest() of a new object: no ACT, no THE STACK, no RETURNS, none FETCHED */
    private static void digestOfNothing() {
        BigInteger h = BigInteger.valueOf(73);
        int[][] runs = {{24, 0}, {48, 1}, {8, -1}, {8, 5}, {8, 0}, {1, 0}, {1, 0}, {17, 0}, {1, 3}};
        for (int[] run : runs) {
            for (int k = 0; k < run[0]; k++) {
                h = h.multiply(BigInteger.valueOf(31)).add(BigInteger.valueOf(run[1]));
            }
        }
        Due.is("digest()", new GuessFetch().digest(), h.longValue());
    }
}
