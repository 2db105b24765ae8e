import java.math.BigInteger;

/** Each sentence of the document by which a number comes round to its other end. */
final class WrapAroundTest {
    private static final int NONE = Make.NONE, MIN = Make.MIN, MAX = Make.MAX;

    public static void main(String[] args) {
        sumsWrap();
        differencesWrap();
        belowDoesNotWrap();
        loadTakesTheLowestFourBits();
        storeTakesTheLowestFourBits();
        byIsWithoutTheHighestBit();
        historyByAGuess();
        historyBehindAWrongTurn();
        historyBehindAWrongStay();
        countersLearnByAddressModulo16();
        choiceLearnsByAddressModulo16();
        countersTellByAddressModulo16();
        targetsByAddressModulo8();
        targetsAtItsPlaceAlone();
        targetsAreTakenFromOneAnother();
        digestWraps();
        digestOfARunUnderWay();
        Due.end();
    }

    /** One ACT on r1 and r2 is DONE; r1 then. */
    private static long registerBehind(int[] act, int r1, int r2) {
        GuessFetch x = Make.program(0, 1, act, Make.halt());
        x.put(1, r1);
        x.put(2, r2);
        Make.begun(x, 10);
        Due.is("r2 stays", x.value(2), r2);
        return x.value(1);
    }

    /** "ADD: r[a] is r[a] and r[b] (sums wrap)" */
    private static void sumsWrap() {
        Due.is("MAX and 1", registerBehind(Make.add(1, 2), MAX, 1), MIN);
        Due.is("MAX and MAX", registerBehind(Make.add(1, 2), MAX, MAX), -2);
        Due.is("MIN and -1", registerBehind(Make.add(1, 2), MIN, -1), MAX);
        Due.is("MIN and MIN", registerBehind(Make.add(1, 2), MIN, MIN), 0);
        Due.is("MIN and MAX", registerBehind(Make.add(1, 2), MIN, MAX), -1);
        Due.is("r1 and itself", registerBehind(Make.add(1, 1), MAX, 0), -2);
    }

    /** "LESS: r[a] is r[a] less r[b]" */
    private static void differencesWrap() {
        Due.is("MIN less 1", registerBehind(Make.less(1, 2), MIN, 1), MAX);
        Due.is("MAX less -1", registerBehind(Make.less(1, 2), MAX, -1), MIN);
        Due.is("0 less MIN", registerBehind(Make.less(1, 2), 0, MIN), MIN);
        Due.is("MIN less MIN", registerBehind(Make.less(1, 2), MIN, MIN), 0);
        Due.is("-2 less MAX", registerBehind(Make.less(1, 2), -2, MAX), MAX);
        Due.is("MIN less itself", registerBehind(Make.less(1, 1), MIN, 0), 0);
    }

    /** "BELOW: .. if r[a] is below r[b]": as numbers, not by a difference that wraps */
    private static void belowDoesNotWrap() {
        int[][] pairs = {{MIN, MAX, 1}, {MAX, MIN, 0}, {MIN, 1, 1}, {1, MIN, 0}, {-2, MAX, 1}, {MAX, -2, 0}};
        for (int[] pair : pairs) {
            GuessFetch x = Make.program(0, 1, Make.below(1, 2, 7));
            x.put(1, pair[0]);
            x.put(2, pair[1]);
            Make.begun(x, 2);
            Due.is(pair[0] + " below " + pair[1], x.count(11), pair[2] == 1 ? 7 : 1);
        }
    }

    private static final int[][] FOUR_BITS = {{0, 0}, {15, 15}, {16, 0}, {17, 1}, {31, 15}, {-1, 15}, {-16, 0},
        {-15, 1}, {MIN, 0}, {MIN + 5, 5}, {MAX, 15}};

    /** "MEMORY at the lowest four bits of r[b]" */
    private static void loadTakesTheLowestFourBits() {
        for (int[] pair : FOUR_BITS) {
            GuessFetch x = Make.program(0, 1, Make.load(1, 2), Make.halt());
            for (int m = 0; m < 16; m++) {
                x.put(8 + m, 100 + m);
            }
            x.put(2, pair[0]);
            Make.begun(x, 10);
            Due.is("LOAD at " + pair[0], x.value(1), 100 + pair[1]);
        }
    }

    /** "MEMORY there is r[a]" */
    private static void storeTakesTheLowestFourBits() {
        for (int[] pair : FOUR_BITS) {
            GuessFetch x = Make.program(0, 1, Make.store(1, 2), Make.halt());
            x.put(1, -7);
            x.put(2, pair[0]);
            Make.begun(x, 10);
            for (int m = 0; m < 16; m++) {
                Due.is("STORE at " + pair[0] + ": MEMORY " + m, x.value(8 + m), m == pair[1] ? -7 : 0);
            }
        }
    }

    /** "BY: to r[a] without its highest bit, modulo how many ACTS there are" */
    private static void byIsWithoutTheHighestBit() {
        // MAX is 2147483647: 0 modulo 1, 1 modulo 2 and 3, 2 modulo 5, 7 modulo 60
        int[][] due = {{1, 0}, {2, 1}, {3, 1}, {5, 2}, {60, 7}};
        for (int[] row : due) {
            int n = row[0];
            int[][] pairs = {{0, 0}, {n - 1, n - 1}, {n, 0}, {n + 1, 1 % n}, {MIN, 0}, {MIN + n, 0}, {MIN + n - 1, n - 1},
                {-1, row[1]}, {MAX, row[1]}};
            for (int[] pair : pairs) {
                GuessFetch x = Make.program(0, 1, Make.times(n, Make.by(3)));
                x.put(3, pair[0]);
                Make.begun(x, 2);
                Due.is("BY " + pair[0] + " of " + n + " ACTS", x.fetched(0), pair[1]);
                Due.is("its TARGET", x.table(5, 0), pair[1]);
            }
        }
    }

    /** "the lowest bit comes to HISTORY (all others go one up, the highest one out): 1 it turns .. else 0" */
    private static void historyByAGuess() {
        for (int h = 0; h <= 15; h++) {
            for (int bit = 0; bit <= 1; bit++) {
                GuessFetch x = Make.program(1, 6, Make.same(0, 0, 9));
                Make.known(x, 0, 6, 9);
                x.harm(0, 0, bit == 1 ? 3 : 0);
                x.harm(6, 0, h);
                Make.begun(x, 1);
                Due.is("HISTORY " + h + " with " + bit, x.table(6, 0), (2 * h + bit) % 16);
            }
        }
    }

    /** "HISTORY .. as kept with it; then of a BRANCH the bit of what it did" */
    private static void historyBehindAWrongTurn() {
        for (int h = 0; h <= 15; h++) {
            GuessFetch x = Make.program(0, 1, Make.same(0, 0, 9));
            Make.known(x, 0, 6, 9);
            x.harm(6, 0, h);
            Make.begun(x, 2);
            Due.is("WRONG", x.count(6), 1);
            Due.is("HISTORY " + h + " and it turned", x.table(6, 0), (2 * h + 1) % 16);
        }
    }

    private static void historyBehindAWrongStay() {
        for (int h = 0; h <= 15; h++) {
            GuessFetch x = Make.program(1, 1, Make.below(0, 0, 9));
            Make.known(x, 0, 5, 9);
            x.harm(0, 0, 3);
            x.harm(6, 0, h);
            Make.begun(x, 2);
            Due.is("WRONG", x.count(6), 1);
            Due.is("HISTORY " + h + " and it did not turn", x.table(6, 0), 2 * h % 16);
        }
    }

    /** A JUMP at 0 that is guessed, to p; at p a SAME of r0 and r0 to 60; none DONE yet. */
    private static GuessFetch branchAt(int p, int way, int depth, int history) {
        GuessFetch x = new GuessFetch();
        x.way(way, depth);
        for (int at = 0; at < 60; at++) {
            x.act(at == p ? 6 : at == 0 ? 7 : 11, 0, 0, at == p ? 60 : p);
        }
        if (p > 0) {
            Make.known(x, 0, 7, p);
        }
        x.harm(6, 0, history);
        return x;
    }

    /** Runs it until the BRANCH is DONE. */
    private static void runBranch(GuessFetch x, int p) {
        Make.begun(x, p > 0 ? 3 : 2);
        Due.is("the BRANCH at " + p + " is DONE", x.count(5), 1);
    }

    /** "PLAIN[16] by ADDRESS modulo 16, MIXED[16] by ADDRESS modulo 16 with HISTORY crossed into it" */
    private static void countersLearnByAddressModulo16() {
        for (int p = 0; p < 60; p++) {
            int history = p * 7 % 16;
            GuessFetch x = branchAt(p, 0, 1, history);
            runBranch(x, p);
            for (int i = 0; i < 16; i++) {
                Due.is("BRANCH at " + p + ": PLAIN " + i, x.table(0, i), i == p % 16 ? 2 : 1);
                Due.is("BRANCH at " + p + ", HISTORY " + history + ": MIXED " + i, x.table(1, i),
                        i == crossed(p % 16, history) ? 2 : 1);
                Due.is("BRANCH at " + p + ": CHOICE " + i, x.table(2, i), 1);
            }
            Due.is("BRANCH at " + p + ": ADDRESS", x.table(3, p % 8), p);
        }
    }

    /** "(bits that differ are 1)", one bit after the other */
    private static int crossed(int a, int b) {
        int all = 0;
        for (int bit = 1; bit < 16; bit *= 2) {
            all += a / bit % 2 != b / bit % 2 ? bit : 0;
        }
        return all;
    }

    /** "CHOICE[16] by ADDRESS modulo 16" */
    private static void choiceLearnsByAddressModulo16() {
        for (int p = 0; p < 60; p++) {
            GuessFetch x = branchAt(p, 0, 1, 9);
            x.harm(1, crossed(p % 16, 9), 2);
            runBranch(x, p);
            for (int i = 0; i < 16; i++) {
                Due.is("BRANCH at " + p + ": CHOICE " + i, x.table(2, i), i == p % 16 ? 2 : 1);
            }
        }
    }

    /** The same places when it is guessed: one counter tells other than all others of its row. */
    private static void countersTellByAddressModulo16() {
        for (int p = 1; p < 60; p++) {
            int history = p * 5 % 16;
            int mixedPlace = crossed(p % 16, history);
            for (int others = 0; others <= 3; others += 3) {
                int one = 3 - others;
                int goes = one == 3 ? 44 : p + 1;
                String name = "BRANCH at " + p + ", HISTORY " + history + ", one counter " + one + ", WAY ";
                Due.is(name + "1", guessedAt(p, 1, history, 0, p % 16, others, new int[] {0, 0, 0}), goes);
                Due.is(name + "2", guessedAt(p, 2, history, 1, mixedPlace, others, new int[] {0, 0, 0}), goes);
                Due.is(name + "3 by PLAIN", guessedAt(p, 3, history, 0, p % 16, others, new int[] {0, one, 0}), goes);
                Due.is(name + "3 by MIXED", guessedAt(p, 3, history, 1, mixedPlace, others, new int[] {one, 0, 3}), goes);
                Due.is(name + "3 by CHOICE", guessedAt(p, 3, history, 2, p % 16, others, new int[] {0, 3, 0}), goes);
            }
        }
    }

    /** PLACE behind the FETCH of the BRANCH at p, in TARGETS to 44: rows of counters as given, of one row one other. */
    private static int guessedAt(int p, int way, int history, int row, int one, int others, int[] rows) {
        // at DEPTH 2 the BRANCH is FETCHED before the JUMP is DONE, which may take its place in TARGETS
        GuessFetch x = branchAt(p, way, 2, history);
        Make.begun(x, 1);
        Make.known(x, p, 6, 44);
        for (int i = 0; i < 16; i++) {
            for (int what = 0; what <= 2; what++) {
                x.harm(what, i, what != row ? rows[what] : i == one ? 3 - others : others);
            }
        }
        x.run(1);
        return x.count(11);
    }

    /** "TARGETS, 8 places, by ADDRESS modulo 8" */
    private static void targetsByAddressModulo8() {
        for (int p = 0; p < 60; p++) {
            GuessFetch x = Make.program(0, 1, Make.times(60, Make.jump(p)));
            Make.begun(x, 3);
            Due.is("JUMP at " + p + " is DONE", x.done(1), p);
            for (int i = 0; i < 8; i++) {
                int due = i == p % 8 ? p : i == 0 ? 0 : NONE;
                Due.is("JUMP at " + p + ": ADDRESS " + i, x.table(3, i), due);
                Due.is("JUMP at " + p + ": kind " + i, x.table(4, i), due == NONE ? 5 : 7);
                Due.is("JUMP at " + p + ": TARGET " + i, x.table(5, i), due == NONE ? 0 : p);
            }
        }
    }

    /** "If p is in TARGETS (at its place)": not at another, and not another one at its place */
    private static void targetsAtItsPlaceAlone() {
        for (int p = 0; p < 20; p++) {
            GuessFetch at = fetchedWith(p, p % 8, p);
            Due.is("at its place: " + p, at.count(11), 50);
            Due.is("it was in TARGETS", at.count(8), p + 1);
            GuessFetch other = fetchedWith(p, p % 8, p + 8);
            Due.is("another at its place: " + p, other.count(11), p + 1);
            GuessFetch elsewhere = fetchedWith(p, (p + 1) % 8, p);
            Due.is("at another place: " + p, elsewhere.count(11), p + 1);
        }
    }

    /** SETS are FETCHED up to p, each as a JUMP to p + 1; that of p with this ADDRESS at this place. */
    private static GuessFetch fetchedWith(int p, int place, int address) {
        GuessFetch x = Make.program(0, 6, Make.times(60, Make.set(0, 1)));
        x.begin();
        for (int at = 0; at < p; at++) {
            Make.known(x, at, 7, at + 1);
            x.run(1);
        }
        x.harm(3, p % 8, NONE);
        Make.target(x, place, address, 7, 50);
        x.run(1);
        return x;
    }

    /** Two TURNS whose ADDRESSES are the same modulo 8 take the place from one another. */
    private static void targetsAreTakenFromOneAnother() {
        GuessFetch x = new GuessFetch();
        x.way(0, 1);
        for (int p = 0; p < 20; p++) {
            x.act(7, 0, 0, p == 0 ? 8 : p == 8 ? 16 : 0);
        }
        x.begin();
        x.run(2);
        Due.is("0 is DONE", x.table(3, 0), 0);
        x.run(1);
        Due.is("8 is DONE", x.table(3, 0), 8);
        Due.is("its TARGET", x.table(5, 0), 16);
        x.run(1);
        Due.is("16 is DONE", x.table(3, 0), 16);
        Due.is("its TARGET", x.table(5, 0), 0);
        x.run(7);
        Due.is("none was found in TARGETS", x.count(8), 0);
        Due.is("each was WRONG", x.count(2), x.count(1));
    }

    /** digest(): "31 times h, and it (as longs, wrapping)" */
    private static void digestWraps() {
        GuessFetch x = new GuessFetch();
        for (int p = 0; p < 30; p++) {
            x.act(p % 5, 7, p % 8, p % 3 == 0 ? MIN : p % 3 == 1 ? MAX : -p);
        }
        for (int i = 0; i < 24; i++) {
            x.put(i, i % 2 == 0 ? MIN + i : MAX - i);
        }
        BigInteger h = BigInteger.valueOf(73);
        for (int p = 0; p < 30; p++) {
            for (int what = 0; what <= 3; what++) {
                h = next(h, x.told(p, what));
            }
        }
        for (int i = 0; i < 24; i++) {
            h = next(h, x.value(i));
        }
        int[][] rest = {{48, 1}, {8, -1}, {8, 5}, {8, 0}, {1, 0}, {1, 0}, {15, 0}, {1, 30}, {1, 0}, {1, 3}};
        for (int[] run : rest) {
            for (int k = 0; k < run[0]; k++) {
                h = next(h, run[1]);
            }
        }
        Due.isTrue("it is beyond a long", h.abs().bitLength() > 800);
        Due.is("digest()", x.digest(), h.longValue());
    }

    /** digest(): "for each of these numbers, in order", where THE STACK, RETURNS and FETCHED ones have some */
    private static void digestOfARunUnderWay() {
        GuessFetch x = Make.program(1, 2, Make.call(2), Make.halt(), Make.call(3), Make.same(6, 7, 0), Make.set(5, 9));
        Make.known(x, 0, 8, 2);
        Make.known(x, 2, 8, 3);
        Make.known(x, 3, 6, 4);
        x.harm(0, 3, 3);
        x.harm(6, 0, 5);
        Make.begun(x, 4);
        int[] numbers = {8, 0, 0, 2, 11, 0, 0, 0, 8, 0, 0, 3, 6, 6, 7, 0, 0, 5, 0, 9,
            0, 0, 0, 0, 0, 0, 0, 0,
            0, 0, 0, 0, 0, 0, 0, 0, 0, 0, 0, 0, 0, 0, 0, 0,
            1, 3,
            1, 1, 1, 3, 1, 1, 1, 1, 1, 1, 1, 1, 1, 1, 1, 1,
            1, 1, 1, 1, 1, 1, 1, 1, 1, 1, 1, 1, 1, 1, 1, 1,
            1, 1, 1, 1, 1, 1, 1, 1, 1, 1, 1, 1, 1, 1, 1, 1,
            0, -1, 2, 3, -1, -1, -1, -1,
            8, 5, 8, 6, 5, 5, 5, 5,
            2, 0, 3, 4, 0, 0, 0, 0,
            11, 2, 1, 3,
            3, 4,
            4, 2, 0, 0, 2, 0, 0, 0, 3, 2, 2, 5, 1, 2, 0, 5, 1, 2};
        BigInteger h = BigInteger.valueOf(73);
        for (int number : numbers) {
            h = next(h, number);
        }
        Due.is("under way: digest()", x.digest(), h.longValue());
    }

    private static BigInteger next(BigInteger h, long number) {
        return h.multiply(BigInteger.valueOf(31)).add(BigInteger.valueOf(number));
    }
}
