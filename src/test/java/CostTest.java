/**
 * "what was fetched by a wrong guess is dropped ahead of doing anything; .. and each wrong guess costs just so
 * much": DEPTH CYCLES pass till the first ACT is DONE, then one is DONE in each CYCLE, but behind a WRONG one,
 * where DEPTH - 1 CYCLES pass in vain.
 */
final class CostTest {
    public static void main(String[] args) {
        withoutWrongOnes();
        eachJumpNotInTargets();
        eachJumpInTargets();
        theSameForEveryKind();
        aBranchByEachWay();
        whatIsDropped();
        whateverStandsInTheTables();
        Due.end();
    }

    private static void costs(String name, GuessFetch x, int done, int wrong) {
        int depth = x.count(17);
        Due.is(name + ": DONE", x.count(1), done);
        Due.is(name + ": WRONG", x.count(2), wrong);
        Due.is(name + ": CYCLES", x.count(0), depth + done + (depth - 1) * wrong);
    }

    private static void withoutWrongOnes() {
        for (int depth = 1; depth <= 6; depth++) {
            for (int sets = 0; sets <= 59; sets++) {
                GuessFetch x = Make.program(0, depth, Make.times(sets, Make.set(1, 2)));
                x.act(11, 0, 0, 0);
                Make.begun(x, 5000);
                costs("DEPTH " + depth + ", " + sets + " SETS", x, sets + 1, 0);
            }
        }
    }

    /** JUMPS over one ACT each, to a HALT. */
    private static GuessFetch jumps(int depth, int many) {
        GuessFetch x = new GuessFetch();
        x.way(0, depth);
        for (int k = 0; k < many; k++) {
            x.act(7, 0, 0, 2 * k + 2);
            x.act(0, 7, 0, 1);
        }
        x.act(11, 0, 0, 0);
        return x;
    }

    private static void eachJumpNotInTargets() {
        for (int depth = 1; depth <= 6; depth++) {
            for (int many = 0; many <= 29; many++) {
                GuessFetch x = Make.begun(jumps(depth, many), 5000);
                String name = "DEPTH " + depth + ", " + many + " JUMPS";
                costs(name, x, many + 1, many);
                Due.is(name + ": what was FETCHED wrongly did nothing", x.value(7), 0);
            }
        }
    }

    /** The first RUN puts them there: what it has cost is saved by the second one. */
    private static void eachJumpInTargets() {
        for (int depth = 1; depth <= 6; depth++) {
            GuessFetch x = Make.begun(jumps(depth, 4), 5000);
            int first = x.count(0);
            Make.begun(x, 5000);
            costs("DEPTH " + depth + ", the second RUN", x, 5, 0);
            Due.is("DEPTH " + depth + ": saved", first - x.count(0), 4 * (depth - 1));
        }
    }

    /**
     * A TURN of each kind at 2 goes to the HALT at 3 (a BACK to the HALT at 1). It stands in TARGETS as a JUMP,
     * with a TARGET that is right, that is WRONG, or where no ACT is: each WRONG one costs the same.
     */
    private static void theSameForEveryKind() {
        int[][] acts = {Make.below(0, 1, 3), Make.same(0, 0, 3), Make.jump(3), Make.call(3), Make.back(), Make.by(2)};
        for (int depth = 1; depth <= 6; depth++) {
            for (int[] act : acts) {
                boolean isBack = act[0] == 9;
                int right = isBack ? 1 : 3;
                for (int goal : new int[] {right, 2, 50}) {
                    GuessFetch x = Make.program(0, depth, isBack ? Make.call(2) : Make.jump(2), Make.halt(), act,
                            Make.halt());
                    x.put(1, 1);
                    x.put(2, 3);
                    Make.known(x, 0, isBack ? 8 : 7, 2);
                    Make.known(x, 2, 7, goal);
                    Make.begun(x, 5000);
                    costs("DEPTH " + depth + ", kind " + act[0] + ", TARGET " + goal, x, 3, goal == right ? 0 : 1);
                }
            }
        }
    }

    /** A loop of nine rounds: NEVER is WRONG in each but the last, PLAIN, that is told to turn, in the last alone. */
    private static void aBranchByEachWay() {
        for (int depth = 1; depth <= 6; depth++) {
            for (int way = 0; way <= 1; way++) {
                GuessFetch x = Make.program(way, depth, Make.add(0, 2), Make.below(0, 1, 0), Make.halt());
                x.put(1, 9);
                x.put(2, 1);
                Make.known(x, 1, 5, 0);
                x.harm(0, 1, 3);
                Make.begun(x, 5000);
                costs("DEPTH " + depth + ", WAY " + way, x, 19, way == 0 ? 8 : 1);
                Due.is("of these WRONG", x.count(6), x.count(2));
            }
        }
    }

    /** All that was FETCHED behind it: one in each CYCLE of DEPTH, but itself, if there were ACTS. */
    private static void whatIsDropped() {
        for (int depth = 1; depth <= 6; depth++) {
            for (int behind = 0; behind <= 8; behind++) {
                GuessFetch x = Make.program(0, depth, Make.times(1 + behind, Make.set(0, 1)));
                Make.known(x, 0, 7, 40);
                GuessFetch y = Make.program(0, depth, Make.jump(50));
                for (int k = 0; k < behind; k++) {
                    y.act(0, 0, 0, 1);
                }
                Make.begun(x, depth + 1);
                Make.begun(y, depth + 1);
                String name = "DEPTH " + depth + ", " + behind + " behind";
                Due.is(name + ": a SET guessed to go where no ACT is", x.count(3), 0);
                Due.is(name + ": it was WRONG", x.count(2), 1);
                Due.is(name + ": a JUMP guessed to go on", y.count(3), Math.min(behind, depth - 1));
                Due.is(name + ": none is FETCHED", y.count(10), 0);
            }
        }
    }

    private static void whateverStandsInTheTables() {
        int[] ends = new int[4];
        for (int seed = 0; seed < 4000; seed++) {
            Dice dice = new Dice(seed + 2_000_000L);
            GuessFetch x = new GuessFetch();
            x.way(dice.below(4), 1 + dice.below(6));
            int acts = 1 + dice.below(20);
            for (int p = 0; p < acts; p++) {
                int[] q = dice.act(acts);
                x.act(q[0], q[1], q[2], q[3]);
            }
            for (int i = 0; i < 8; i++) {
                x.put(i, dice.about(-4, 30));
            }
            goAndCount("program " + seed, x, dice);
            ends[x.ended()]++;
        }
        Due.isTrue("some went on: " + ends[0], ends[0] > 200);
        Due.isTrue("some came to a HALT: " + ends[1], ends[1] > 200);
        Due.isTrue("some to a FAULT: " + ends[2], ends[2] > 200);
    }

    /** CYCLE by CYCLE, with tables harmed in between, from the outside: when the next ACT must be DONE. */
    private static void goAndCount(String name, GuessFetch x, Dice dice) {
        int depth = x.count(17);
        int next = depth + 1;
        x.begin();
        for (int cycle = 1; cycle <= 70 && x.ended() == 0; cycle++) {
            int wrong = x.count(2);
            boolean none = x.count(10) == 0 && x.count(11) >= x.count(15);
            int done = x.run(1);
            boolean faultOfAnAct = x.ended() == 2 && !none;
            Due.is(name + ", CYCLE " + cycle, done, cycle == next && !none && !faultOfAnAct ? 1 : 0);
            Due.is(name + ", CYCLE " + cycle + ": FAULT where no ACT is", x.ended() == 2 && !faultOfAnAct ? 1 : 0, none ? 1 : 0);
            Due.isTrue(name + ", CYCLE " + cycle + ": a FAULT only as an ACT is due", !faultOfAnAct || cycle == next);
            if (cycle == next) {
                next += x.count(2) == wrong ? 1 : depth;
            }
            int what = dice.below(8);
            x.harm(what, dice.below(what < 3 ? 16 : what < 6 ? 8 : 4), what == 4 ? 5 + dice.below(6) : dice.below(24));
        }
    }
}
