/** Numbers that are the same on each run of the tests. */
final class Dice {
    private static final int[] EDGES = {Integer.MIN_VALUE, Integer.MIN_VALUE + 1, -1000, -103, -2, -1, 0, 1, 2, 3, 4,
        5, 7, 8, 9, 10, 11, 12, 15, 16, 17, 23, 24, 59, 60, 61, 199, 200, 201, 299, 300, 5000, 5001, Integer.MAX_VALUE};
    private long state;

    Dice(long seed) {
        state = seed * 0x9E3779B97F4A7C15L + 1;
    }

    /** 0 to below n. */
    int below(int n) {
        state = state * 6364136223846793005L + 1442695040888963407L;
        return (int) ((state >>> 33) % n);
    }

    /** Mostly low to high, now and then any edge. */
    int about(int low, int high) {
        return below(40) == 0 ? EDGES[below(EDGES.length)] : low + below(high - low + 1);
    }

    /** An ACT that is well formed, among so many. */
    int[] act(int acts) {
        int kind = below(12);
        if (kind == 11 && below(4) != 0) {
            kind = 5 + below(6);
        }
        int c = kind >= 5 && kind <= 8 ? below(Math.min(60, acts) + (below(12) == 0 ? 1 : 0)) : below(9) - 3;
        return new int[] {kind, below(8), below(8), c};
    }
}
