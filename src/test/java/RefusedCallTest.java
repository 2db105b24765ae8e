import java.util.ArrayList;
import java.util.List;

/**
 * "Refusals, of several the first as told by each call: UNKNOWN (no such REGISTER, place), OUTSIDE (a
 * number is not as told), STATE (a RUN is under way, or none is), FULL; they change nothing."
 * Each refused call is made on one of two objects that are alike; they must be alike behind it, and go
 * on alike.
 */
final class RefusedCallTest {
    private static final int UNKNOWN = Make.UNKNOWN, OUTSIDE = Make.OUTSIDE, STATE = Make.STATE,
            FULL = Make.FULL, MIN = Make.MIN, MAX = Make.MAX;

    private interface Call {
        long on(GuessFetch x);
    }

    private record Refused(String name, long due, Call call) {
    }

    /** The objects that the calls are made on. */
    private enum Kind {
        NEW, BETWEEN_RUNS, UNDER_WAY, FULL_BETWEEN_RUNS, FULL_UNDER_WAY;

        boolean isUnderWay() {
            return this == UNDER_WAY || this == FULL_UNDER_WAY;
        }

        boolean isFull() {
            return this == FULL_BETWEEN_RUNS || this == FULL_UNDER_WAY;
        }

        GuessFetch make() {
            GuessFetch x = new GuessFetch();
            if (this == NEW) {
                return x;
            }
            x.way(3, 4);
            int[][] acts = {Make.set(1, 9), Make.set(2, 1), Make.call(6), Make.add(0, 2), Make.below(0, 1, 2), Make.halt(),
                Make.call(8), Make.back(), Make.call(10), Make.back(), Make.add(3, 2), Make.back()};
            for (int[] act : acts) {
                x.act(act[0], act[1], act[2], act[3]);
            }
            while (isFull() && x.count(15) < 60) {
                x.act(4, 1, 2, 5);
            }
            x.begin();
            x.run(isUnderWay() ? 37 : 5000);
            return x;
        }
    }

    public static void main(String[] args) {
        for (Kind kind : Kind.values()) {
            theObjectsAreAsMeant(kind);
            for (Refused refused : refusedBy(kind)) {
                changesNothing(kind, refused);
            }
            tellingChangesNothing(kind);
        }
        Due.end();
    }

    private static void theObjectsAreAsMeant(Kind kind) {
        GuessFetch x = kind.make();
        Due.is(kind + ": ended()", x.ended(), kind == Kind.NEW ? -1 : kind.isUnderWay() ? 0 : 1);
        Due.is(kind + ": ACTS", x.count(15), kind == Kind.NEW ? 0 : kind.isFull() ? 60 : 12);
        if (kind.isUnderWay()) {
            Due.isTrue(kind + ": some are FETCHED", x.count(10) > 1);
            Due.isTrue(kind + ": some are on THE STACK", x.count(9) > 0);
            Due.isTrue(kind + ": there are RETURNS", x.table(8, 0) > 0);
            Due.isTrue(kind + ": some was WRONG", x.count(2) > 0);
        }
    }

    private static List<Refused> refusedBy(Kind kind) {
        List<Refused> all = new ArrayList<>();
        actRefuses(all, kind);
        putAndWayRefuse(all, kind);
        runsRefuse(all, kind);
        harmRefuses(all, kind);
        tellingRefuses(all, kind);
        return all;
    }

    private static void add(List<Refused> all, String name, long due, Call call) {
        all.add(new Refused(name, due, call));
    }

    /** "OUTSIDE ..; STATE; FULL." */
    private static void actRefuses(List<Refused> all, Kind kind) {
        for (int v : new int[] {-1, MIN, MAX}) {
            add(all, "act: kind " + v, OUTSIDE, x -> x.act(v, 0, 0, 0));
            add(all, "act: a " + v, OUTSIDE, x -> x.act(0, v, 0, 0));
            add(all, "act: b " + v, OUTSIDE, x -> x.act(0, 0, v, 0));
            add(all, "act: c " + v, OUTSIDE, x -> x.act(7, 0, 0, v));
            add(all, "act: all " + v, OUTSIDE, x -> x.act(v, v, v, v));
        }
        add(all, "act: kind 12", OUTSIDE, x -> x.act(12, 0, 0, 0));
        add(all, "act: a 8", OUTSIDE, x -> x.act(11, 8, 0, 0));
        add(all, "act: b 8", OUTSIDE, x -> x.act(11, 0, 8, 0));
        add(all, "act: c 61", OUTSIDE, x -> x.act(5, 0, 0, 61));
        if (kind.isUnderWay()) {
            add(all, "act in a RUN", STATE, x -> x.act(0, 0, 0, 0));
        } else if (kind.isFull()) {
            add(all, "act when full", FULL, x -> x.act(0, 0, 0, 0));
        }
    }

    /** wipe(): "STATE."; put(): "UNKNOWN ..; STATE"; way(): "OUTSIDE; STATE." */
    private static void putAndWayRefuse(List<Refused> all, Kind kind) {
        for (int i : new int[] {-1, 24, MIN, MAX}) {
            add(all, "put at " + i, UNKNOWN, x -> x.put(i, 77));
        }
        int[][] wrong = {{-1, 3}, {4, 3}, {MIN, 3}, {MAX, 3}, {1, 0}, {1, 7}, {1, MIN}, {1, MAX}, {4, 0}};
        for (int[] w : wrong) {
            add(all, "way(" + w[0] + ", " + w[1] + ")", OUTSIDE, x -> x.way(w[0], w[1]));
        }
        if (kind.isUnderWay()) {
            add(all, "wipe in a RUN", STATE, x -> x.wipe());
            for (int i : new int[] {0, 7, 8, 23}) {
                add(all, "put in a RUN at " + i, STATE, x -> x.put(i, 77));
            }
            add(all, "way in a RUN", STATE, x -> x.way(0, 1));
        }
    }

    /** begin(): "STATE: one is under way."; run(): "OUTSIDE; STATE"; stop(): "STATE: none is."; forget(): "STATE." */
    private static void runsRefuse(List<Refused> all, Kind kind) {
        for (int n : new int[] {0, 5001, -1, MIN, MAX}) {
            add(all, "run(" + n + ")", OUTSIDE, x -> x.run(n));
        }
        if (kind.isUnderWay()) {
            add(all, "begin in a RUN", STATE, x -> x.begin());
            add(all, "forget in a RUN", STATE, x -> x.forget());
        } else {
            for (int n : new int[] {1, 5000}) {
                add(all, "run(" + n + ") without a RUN", STATE, x -> x.run(n));
            }
            add(all, "stop without a RUN", STATE, x -> x.stop());
            add(all, "known without a RUN", STATE, x -> x.known());
        }
    }

    /** "OUTSIDE: what; UNKNOWN: i; OUTSIDE: v." */
    private static void harmRefuses(List<Refused> all, Kind kind) {
        for (int what : new int[] {-1, 8, MIN, MAX}) {
            add(all, "harm: what " + what, OUTSIDE, x -> x.harm(what, 0, 0));
            add(all, "harm: what before i, " + what, OUTSIDE, x -> x.harm(what, -1, 0));
            add(all, "harm: what before all, " + what, OUTSIDE, x -> x.harm(what, MIN, MAX));
        }
        int[] places = {16, 16, 16, 8, 8, 8, 0, 4};
        int[] least = {0, 0, 0, -1, 5, 0, 0, 0};
        int[] most = {3, 3, 3, 200, 10, 200, 15, 200};
        for (int w = 0; w <= 7; w++) {
            int what = w;
            for (int i : new int[] {-1, places[w], MIN, MAX}) {
                if (w != 6) {
                    add(all, "harm(" + w + "): i " + i, UNKNOWN, x -> x.harm(what, i, least[what]));
                    add(all, "harm(" + w + "): i before v, " + i, UNKNOWN, x -> x.harm(what, i, most[what] + 1));
                }
            }
            for (int v : new int[] {least[w] - 1, most[w] + 1, MIN, MAX}) {
                if (w != 7 || kind.isUnderWay()) {
                    add(all, "harm(" + w + "): v " + v, OUTSIDE, x -> x.harm(what, 0, v));
                }
            }
        }
        if (kind == Kind.NEW) {
            add(all, "harm(7) without RETURNS", UNKNOWN, x -> x.harm(7, 0, 5));
            add(all, "harm(7) without RETURNS: i before v", UNKNOWN, x -> x.harm(7, 0, 201));
        }
    }

    /** table(): "OUTSIDE: what; UNKNOWN: i."; value(): "UNKNOWN."; told(): "UNKNOWN; OUTSIDE."; count(): "OUTSIDE." */
    private static void tellingRefuses(List<Refused> all, Kind kind) {
        for (int what : new int[] {-1, 9, MIN, MAX}) {
            add(all, "table: what " + what, OUTSIDE, x -> x.table(what, 0));
            add(all, "table: what before i, " + what, OUTSIDE, x -> x.table(what, -1));
        }
        int[] places = {16, 16, 16, 8, 8, 8, 0, 4};
        for (int w : new int[] {0, 1, 2, 3, 4, 5, 7}) {
            for (int i : new int[] {-1, places[w], MIN, MAX}) {
                add(all, "table(" + w + "): i " + i, UNKNOWN, x -> x.table(w, i));
            }
        }
        for (int i : new int[] {-1, 24, MIN, MAX}) {
            add(all, "value(" + i + ")", UNKNOWN, x -> x.value(i));
        }
        for (int p : new int[] {-1, 60, MIN, MAX}) {
            add(all, "told: p " + p, UNKNOWN, x -> x.told(p, 0));
            add(all, "told: p before what, " + p, UNKNOWN, x -> x.told(p, 4));
        }
        for (int what : new int[] {-1, 4, MIN, MAX}) {
            add(all, "told: what " + what, kind == Kind.NEW ? UNKNOWN : OUTSIDE, x -> x.told(0, what));
        }
        for (int what : new int[] {-1, 18, MIN, MAX}) {
            add(all, "count(" + what + ")", OUTSIDE, x -> x.count(what));
        }
    }

    private static void changesNothing(Kind kind, Refused refused) {
        GuessFetch x = kind.make();
        GuessFetch untouched = kind.make();
        String name = kind + ": " + refused.name();
        Due.is(name, refused.call().on(x), refused.due());
        areAlike(name, x, untouched);
        Due.is(name + ", again", refused.call().on(x), refused.due());
        goOnAlike(name, x, untouched);
    }

    /** What only tells doesn't change anything either. */
    private static void tellingChangesNothing(Kind kind) {
        GuessFetch x = kind.make();
        GuessFetch untouched = kind.make();
        for (int k = 0; k < 20; k++) {
            x.value(k);
            x.stack(k);
            x.done(k);
            x.fetched(k);
            x.told(k, k % 4);
            x.count(k);
            x.table(k % 9, k % 8);
        }
        x.known();
        x.ended();
        x.digest();
        areAlike(kind + ": telling", x, untouched);
        goOnAlike(kind + ": telling", x, untouched);
    }

    private static void areAlike(String name, GuessFetch x, GuessFetch y) {
        Due.is(name + ": digest()", x.digest(), y.digest());
        Due.is(name + ": ended()", x.ended(), y.ended());
        Due.is(name + ": known()", x.known(), y.known());
        for (int k = 0; k < 12; k++) {
            Due.is(name + ": done(" + k + ")", x.done(k), y.done(k));
        }
        for (int k = 0; k < 7; k++) {
            Due.is(name + ": fetched(" + k + ")", x.fetched(k), y.fetched(k));
        }
    }

    /** What is kept with FETCHED ones shows only as they are DONE. */
    private static void goOnAlike(String name, GuessFetch x, GuessFetch y) {
        for (int k = 0; k < 12; k++) {
            if (y.ended() != 0) {
                Due.is(name + ", then begin()", x.begin(), y.begin());
            }
            Due.is(name + ", then run(3)", x.run(3), y.run(3));
            Due.is(name + ", then digest()", x.digest(), y.digest());
        }
        Due.is(name + ", then run(5000)", x.run(5000), y.run(5000));
        areAlike(name + ", then to the end", x, y);
    }
}
