import java.util.ArrayList;
import java.util.List;

/** Part 1 of the document alone: does one ACT after the other, and guesses nothing. */
final class Interpreter {
    static final int FAULT = -1, HALT = -2;
    final List<int[]> acts = new ArrayList<>();
    final int[] registers = new int[8];
    final int[] memory = new int[16];
    final List<Integer> stack = new ArrayList<>();
    /** Whether the ACT that was done last is a TURN that turned. */
    boolean turned;

    /** Does the ACT at p; where the program goes on, FAULT or HALT. */
    int step(int p) {
        turned = false;
        if (p >= acts.size()) {
            return FAULT;
        }
        int[] act = acts.get(p);
        int ra = registers[act[1]];
        int rb = registers[act[2]];
        int kind = act[0];
        if (kind == 11) {
            return HALT;
        }
        if (kind == 8 && stack.size() == 16 || kind == 9 && stack.isEmpty()) {
            return FAULT;
        }
        if (kind <= 3) {
            registers[act[1]] = kind == 0 ? act[3] : kind == 1 ? ra + rb : kind == 2 ? ra - rb : memory[rb & 15];
        }
        if (kind == 4) {
            memory[rb & 15] = ra;
        }
        turned = kind == 5 && ra < rb || kind == 6 && ra == rb || kind >= 7;
        if (!turned) {
            return p + 1;
        }
        if (kind == 9) {
            return stack.remove(stack.size() - 1);
        }
        if (kind == 10) {
            long low = ra < 0 ? ra + (1L << 31) : ra;
            return (int) (low % acts.size());
        }
        if (kind == 8) {
            stack.add(p + 1);
        }
        return act[3];
    }
}
