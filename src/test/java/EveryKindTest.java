/**
 * What part 1 and part 3 say of each kind of ACT by itself: "BELOW and SAME are BRANCHES; 5 to 10 are TURNS",
 * "A TURN that turned (all but BRANCHES do)", and what a BRANCH that turned, or did not, leaves in the tables.
 */
final class EveryKindTest {
    private static final int NONE = Make.NONE, MIN = Make.MIN, MAX = Make.MAX;

    public static void main(String[] args) {
        whatIsCountedOfEachKind();
        whatIsLearnedOfEachKind();
        aBranchByItsRegisters();
        whatEachKindChanges();
        aRegisterWithItself();
        Due.end();
    }

    private static boolean isTurn(int kind) {
        return kind >= 5 && kind <= 10;
    }

    /** At 0 a CALL to 1, at 1 the ACT of this kind; r1 is 1 and r2 is 2. DEPTH 1; both are DONE. */
    private static GuessFetch done(int kind, int a, int b) {
        GuessFetch x = Make.program(0, 1, Make.call(1));
        x.act(kind, a, b, 4);
        for (int p = 2; p <= 5; p++) {
            x.act(11, 0, 0, 0);
        }
        x.put(1, 1);
        x.put(2, 2);
        x.put(3, 22);
        x.harm(6, 0, 5);
        return Make.begun(x, 3);
    }

    /** "4 TURNS DONE, 5 BRANCHES DONE"; "HALT is DONE" */
    private static void whatIsCountedOfEachKind() {
        for (int kind = 0; kind <= 11; kind++) {
            for (int a = 1; a <= 2; a++) {
                GuessFetch x = done(kind, a, 3 - a);
                String name = "kind " + kind + ", a " + a;
                Due.is(name + ": DONE", x.count(1), 2);
                Due.is(name + ": TURNS", x.count(4), isTurn(kind) ? 2 : 1);
                Due.is(name + ": BRANCHES", x.count(5), kind == 5 || kind == 6 ? 1 : 0);
                Due.is(name + ": done(1)", x.done(1), 1);
                Due.is(name + ": ended()", x.ended(), kind == 11 ? 1 : 0);
            }
        }
    }

    /** Counters are changed by BRANCHES alone, TARGETS by what turned alone. */
    private static void whatIsLearnedOfEachKind() {
        for (int kind = 0; kind <= 11; kind++) {
            if (kind == 5 || kind == 6) {
                continue;
            }
            GuessFetch x = done(kind, 3, 3);
            String name = "kind " + kind;
            for (int i = 0; i <= 15; i++) {
                Due.is(name + ": counters at " + i, x.table(0, i) + 10 * x.table(1, i) + 100 * x.table(2, i), 111);
            }
            // 22 modulo the six ACTS there are is 4; the BACK goes to what the CALL has left
            int goal = kind == 9 ? 1 : 4;
            Due.is(name + ": ADDRESS", x.table(3, 1), isTurn(kind) ? 1 : NONE);
            Due.is(name + ": kind", x.table(4, 1), isTurn(kind) ? kind : 5);
            Due.is(name + ": TARGET", x.table(5, 1), isTurn(kind) ? goal : 0);
            Due.is(name + ": HISTORY stays", x.table(6, 0), 5);
            Due.is(name + ": WRONG", x.count(2), isTurn(kind) ? 1 : 0);
            Due.is(name + ": none of a BRANCH", x.count(6), 0);
            Due.is(name + ": of a BACK", x.count(7), kind == 9 ? 1 : 0);
            Due.is(name + ": known()", x.known(), kind == 11 ? Make.STATE : isTurn(kind) ? goal : 2);
        }
    }

    /** "to c, if r[a] is below r[b]"; "to c, if r[a] is r[b]": above, below and the same, at each WAY. */
    private static void aBranchByItsRegisters() {
        int[][] pairs = {{1, 2}, {2, 1}, {2, 2}, {-1, 1}, {1, -1}, {MIN, MAX}, {MAX, MIN}, {MIN, MIN}, {MAX, MAX},
            {0, MIN}, {MIN, 0}};
        for (int[] pair : pairs) {
            for (int kind = 5; kind <= 6; kind++) {
                for (int way = 0; way <= 3; way++) {
                    boolean turns = kind == 5 ? pair[0] < pair[1] : pair[0] == pair[1];
                    branchNotInTargets(kind, pair, way, turns);
                    branchInTargets(kind, pair, way, turns);
                }
            }
        }
    }

    private static GuessFetch branch(int kind, int[] pair, int way) {
        GuessFetch x = new GuessFetch();
        x.way(way, 1);
        x.act(kind, 4, 7, 3);
        for (int p = 1; p <= 3; p++) {
            x.act(11, 0, 0, 0);
        }
        x.put(4, pair[0]);
        x.put(7, pair[1]);
        x.harm(6, 0, 9);
        return x;
    }

    private static void branchNotInTargets(int kind, int[] pair, int way, boolean turns) {
        GuessFetch x = Make.begun(branch(kind, pair, way), 2);
        String name = "kind " + kind + " of " + pair[0] + " and " + pair[1] + " by WAY " + way;
        Due.is(name + ": known()", x.known(), turns ? 3 : 1);
        Due.is(name + ": PLAIN", x.table(0, 0), turns ? 2 : 0);
        Due.is(name + ": MIXED", x.table(1, 9), turns ? 2 : 0);
        Due.is(name + ": CHOICE", x.table(2, 0), 1);
        Due.is(name + ": ADDRESS", x.table(3, 0), turns ? 0 : NONE);
        Due.is(name + ": kind", x.table(4, 0), turns ? kind : 5);
        Due.is(name + ": TARGET", x.table(5, 0), turns ? 3 : 0);
        Due.is(name + ": HISTORY", x.table(6, 0), turns ? 3 : 9);
        Due.is(name + ": WRONG", x.count(6), turns ? 1 : 0);
        Due.is(name + ": in TARGETS", x.count(8), 0);
    }

    /** PLAIN tells that it turns, MIXED that it doesn't; CHOICE takes PLAIN. Its TARGET is not its c. */
    private static void branchInTargets(int kind, int[] pair, int way, boolean turns) {
        GuessFetch x = branch(kind, pair, way);
        Make.known(x, 0, kind, 2);
        x.harm(0, 0, 2);
        Make.begun(x, 1);
        String name = "in TARGETS, kind " + kind + " of " + pair[0] + " and " + pair[1] + " by WAY " + way;
        boolean guessed = way == 1 || way == 3;
        Due.is(name + ": GUESS", x.count(11), guessed ? 2 : 1);
        Due.is(name + ": HISTORY by the GUESS", x.table(6, 0), guessed ? 3 : 2);
        x.run(1);
        boolean wrong = turns || guessed;
        Due.is(name + ": known()", x.known(), turns ? 3 : 1);
        Due.is(name + ": WRONG", x.count(6), wrong ? 1 : 0);
        Due.is(name + ": PLAIN", x.table(0, 0), turns ? 3 : 1);
        Due.is(name + ": MIXED", x.table(1, 9), turns ? 2 : 0);
        Due.is(name + ": CHOICE", x.table(2, 0), turns ? 0 : 2);
        Due.is(name + ": TARGET", x.table(5, 0), turns ? 3 : 2);
        Due.is(name + ": HISTORY", x.table(6, 0), turns ? 3 : 2);
    }

    /** REGISTERS, MEMORY and THE STACK behind an ACT of each kind, and where it goes on. */
    private static void whatEachKindChanges() {
        for (int kind = 0; kind <= 10; kind++) {
            GuessFetch x = new GuessFetch();
            x.way(0, 1);
            x.act(8, 0, 0, 1);
            x.act(kind, 3, 5, 4);
            for (int p = 2; p <= 5; p++) {
                x.act(11, 0, 0, 0);
            }
            for (int i = 0; i <= 23; i++) {
                x.put(i, 100 + i);
            }
            Make.begun(x, 3);
            // r3 is 103, r5 is 105; the lowest four bits of 105 are 9
            int r3 = kind == 0 ? 4 : kind == 1 ? 208 : kind == 2 ? -2 : kind == 3 ? 117 : 103;
            for (int i = 0; i <= 23; i++) {
                int due = i == 3 ? r3 : i == 17 && kind == 4 ? 103 : 100 + i;
                Due.is("kind " + kind + ": value(" + i + ")", x.value(i), due);
            }
            int[] goesTo = {2, 2, 2, 2, 2, 4, 2, 4, 4, 1, 103 % 6};
            Due.is("kind " + kind + ": known()", x.known(), goesTo[kind]);
            Due.is("kind " + kind + ": on THE STACK", x.count(9), kind == 8 ? 2 : kind == 9 ? 0 : 1);
            Due.is("kind " + kind + ": stack(0)", x.stack(0), kind == 9 ? NONE : 1);
            Due.is("kind " + kind + ": stack(1)", x.stack(1), kind == 8 ? 2 : NONE);
        }
    }

    /** a and b may be one REGISTER. */
    private static void aRegisterWithItself() {
        int[] due = {4, 42, 0, 113, 21};
        for (int kind = 0; kind <= 4; kind++) {
            GuessFetch x = Make.program(0, 1, new int[] {kind, 6, 6, 4}, Make.halt());
            for (int m = 0; m <= 15; m++) {
                x.put(8 + m, 108 + m);
            }
            x.put(6, 21);
            Make.begun(x, 2);
            Due.is("kind " + kind + " of a REGISTER with itself", x.value(6), due[kind]);
            Due.is("kind " + kind + ": MEMORY at 5", x.value(13), kind == 4 ? 21 : 113);
        }
        Due.is("BELOW of a REGISTER with itself", Make.begun(Make.program(0, 1, Make.below(6, 6, 9)), 2).count(2), 0);
        Due.is("SAME of a REGISTER with itself", Make.begun(Make.program(0, 1, Make.same(6, 6, 9)), 2).count(2), 1);
    }
}
