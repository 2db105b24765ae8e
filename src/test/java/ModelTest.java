/** All promises: many runs of calls, each answer as the model's; no call throws, whatever its numbers are. */
final class ModelTest {
    private static final int OBJECTS = 15000;
    /** An object promises nothing beyond 512 calls; the dearest step below makes ten, a new program 70. */
    private static final int CALLS = 512 - 10 - 70;

    public static void main(String[] args) {
        int[] ends = new int[4];
        for (int object = 0; object < OBJECTS; object++) {
            Dice dice = new Dice(object);
            GuessFetch x = new GuessFetch();
            Model model = new Model();
            String name = "object " + object;
            int calls = program(x, model, dice, name);
            while (calls < CALLS && !Due.anyWrong()) {
                calls += step(x, model, dice, name + ", call " + calls);
                if (model.ended() > 0) {
                    ends[model.ended()]++;
                }
            }
            Due.is(name + ": digest() at the end", x.digest(), model.digest());
        }
        for (int how = 1; how <= 3; how++) {
            Due.isTrue("runs that ended by " + how + " were met", ends[how] > 1000);
        }
        Due.end();
    }

    /** A program to begin with; how many calls that took. */
    private static int program(GuessFetch x, Model model, Dice dice, String name) {
        int acts = dice.below(5) == 0 ? 60 : 1 + dice.below(24);
        for (int p = 0; p < acts; p++) {
            int[] q = dice.act(acts);
            Due.is(name + ": act " + p, x.act(q[0], q[1], q[2], q[3]), model.act(q[0], q[1], q[2], q[3]));
        }
        for (int i = 0; i < 8; i++) {
            int v = dice.about(-4, 60);
            Due.is(name + ": put " + i, x.put(i, v), model.put(i, v));
        }
        return acts + 8;
    }

    /** One call, or all of those that tell, and ended() and digest() behind it; how many calls that took. */
    private static int step(GuessFetch x, Model m, Dice dice, String name) {
        int calls = 4;
        switch (dice.below(26)) {
            case 0: {
                int[] q = {dice.about(0, 11), dice.about(0, 7), dice.about(0, 7), dice.about(0, 20)};
                Due.is(name + ": act", x.act(q[0], q[1], q[2], q[3]), m.act(q[0], q[1], q[2], q[3]));
                break;
            }
            case 1: {
                if (dice.below(12) == 0) {
                    Due.is(name + ": wipe", x.wipe(), m.wipe());
                    calls += program(x, m, dice, name);
                }
                break;
            }
            case 2: case 3: {
                int i = dice.about(0, 23);
                int v = dice.about(-5, 40);
                Due.is(name + ": put", x.put(i, v), m.put(i, v));
                break;
            }
            case 4: {
                int way = dice.about(0, 3);
                int depth = dice.about(1, 6);
                Due.is(name + ": way", x.way(way, depth), m.way(way, depth));
                break;
            }
            case 5: case 6: case 7: Due.is(name + ": begin", x.begin(), m.begin()); break;
            case 8: case 9: case 10: case 11: case 12: case 13: {
                int n = dice.below(12) == 0 ? dice.about(1, 5000) : dice.about(1, 12);
                Due.is(name + ": run(" + n + ")", x.run(n), m.run(n));
                break;
            }
            case 14: {
                if (dice.below(3) == 0) {
                    Due.is(name + ": stop", x.stop(), m.stop());
                }
                break;
            }
            case 15: case 16: case 17: case 18: {
                int what = dice.about(0, 7);
                int i = dice.about(0, what < 3 ? 15 : what < 6 ? 7 : 3);
                int v = dice.about(what == 4 ? 5 : what == 3 ? -1 : 0, what < 3 ? 3 : what == 4 ? 10 : 20);
                Due.is(name + ": harm(" + what + ", " + i + ", " + v + ")", x.harm(what, i, v), m.harm(what, i, v));
                break;
            }
            case 19: {
                if (dice.below(4) == 0) {
                    Due.is(name + ": forget", x.forget(), m.forget());
                }
                break;
            }
            case 20: {
                int what = dice.about(0, 8);
                int i = dice.about(0, 15);
                Due.is(name + ": table", x.table(what, i), m.table(what, i));
                break;
            }
            default:
                told(x, m, dice, name);
                calls += 6;
        }
        Due.is(name + ": ended", x.ended(), m.ended());
        Due.is(name + ": digest", x.digest(), m.digest());
        return calls;
    }

    private static void told(GuessFetch x, Model m, Dice dice, String name) {
        int k = dice.about(0, dice.below(3) == 0 ? 310 : 20);
        int what = dice.about(0, 17);
        Due.is(name + ": value " + k, x.value(k), m.value(k));
        Due.is(name + ": stack " + k, x.stack(k), m.stack(k));
        Due.is(name + ": done " + k, x.done(k), m.done(k));
        Due.is(name + ": fetched " + k, x.fetched(k), m.fetched(k));
        Due.is(name + ": known", x.known(), m.known());
        Due.is(name + ": told " + k, x.told(k, what - 5), m.told(k, what - 5));
        Due.is(name + ": count " + what, x.count(what), m.count(what));
    }
}
