import java.util.ArrayList;
import java.util.List;

/** Whatever stands in the tables, the program does what it would do without them. */
final class SameAnywayTest {
    /** An object promises nothing beyond 512 calls: some 240 are made besides. */
    private static final int MOST_COMPARED = 250;

    public static void main(String[] args) {
        int halted = 0;
        int far = 0;
        int wrong = 0;
        for (int seed = 0; seed < 8000; seed++) {
            Dice dice = new Dice(seed + 1_000_000L);
            GuessFetch x = new GuessFetch();
            Interpreter plain = new Interpreter();
            x.way(dice.below(4), 1 + dice.below(6));
            int acts = 2 + dice.below(30);
            for (int p = 0; p < acts; p++) {
                int[] q = dice.act(acts);
                plain.acts.add(q);
                x.act(q[0], q[1], q[2], q[3]);
            }
            for (int i = 0; i < 24; i++) {
                int v = dice.about(-4, 30);
                x.put(i, v);
                (i < 8 ? plain.registers : plain.memory)[i % 8 + (i > 15 ? 8 : 0)] = v;
            }
            runAndHarm(x, dice);
            compare("program " + seed, x, plain);
            halted += x.ended() == 1 ? 1 : 0;
            far += x.count(1) > 100 ? 1 : 0;
            wrong += x.count(2) > 0 ? 1 : 0;
        }
        Due.isTrue("many came to a HALT", halted > 300);
        Due.isTrue("many went far", far > 1000);
        Due.isTrue("many were guessed wrong", wrong > 4000);
        Due.end();
    }

    private static void runAndHarm(GuessFetch x, Dice dice) {
        x.begin();
        for (int k = 0; k < 60; k++) {
            x.run(1 + dice.below(12));
            int what = dice.below(8);
            x.harm(what, dice.below(what < 3 ? 16 : what < 6 ? 8 : 4), what == 4 ? 5 + dice.below(6) : dice.below(40));
        }
    }

    /** As many ACTS as were DONE, one after the other, come to the same. */
    private static void compare(String name, GuessFetch x, Interpreter plain) {
        List<Integer> path = new ArrayList<>();
        int p = 0;
        int next = 0;
        for (int k = 0; k < x.count(1) && next >= 0; k++) {
            p = next;
            next = plain.step(p);
            path.add(p);
        }
        for (int k = 0; k < path.size() && k < MOST_COMPARED; k++) {
            Due.is(name + ": done(" + k + ")", x.done(k), path.get(k));
        }
        Due.is(name + ": how many", x.count(1), path.size());
        for (int i = 0; i < 24; i++) {
            Due.is(name + ": value(" + i + ")", x.value(i), i < 8 ? plain.registers[i] : plain.memory[i - 8]);
        }
        Due.is(name + ": count(9)", x.count(9), plain.stack.size());
        for (int k = 0; k < plain.stack.size(); k++) {
            Due.is(name + ": stack(" + k + ")", x.stack(k), plain.stack.get(k));
        }
        if (x.ended() == 0) {
            Due.is(name + ": known()", x.known(), next);
        } else {
            Due.is(name + ": ended()", x.ended(), next == Interpreter.HALT ? 1 : 2);
        }
        if (x.ended() == 2) {
            Due.is(name + ": the next is a FAULT", plain.step(next), Interpreter.FAULT);
        }
    }
}
