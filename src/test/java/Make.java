/** ACTS by their kinds' names, and objects made of them, for tests that read like the document. */
final class Make {
    static final int NONE = -1, UNKNOWN = -101, OUTSIDE = -102, STATE = -103, FULL = -104;
    static final int MIN = Integer.MIN_VALUE, MAX = Integer.MAX_VALUE;

    private Make() {
    }

    static int[] set(int a, int c) {
        return new int[] {0, a, 0, c};
    }

    static int[] add(int a, int b) {
        return new int[] {1, a, b, 0};
    }

    static int[] less(int a, int b) {
        return new int[] {2, a, b, 0};
    }

    static int[] load(int a, int b) {
        return new int[] {3, a, b, 0};
    }

    static int[] store(int a, int b) {
        return new int[] {4, a, b, 0};
    }

    static int[] below(int a, int b, int c) {
        return new int[] {5, a, b, c};
    }

    static int[] same(int a, int b, int c) {
        return new int[] {6, a, b, c};
    }

    static int[] jump(int c) {
        return new int[] {7, 0, 0, c};
    }

    static int[] call(int c) {
        return new int[] {8, 0, 0, c};
    }

    static int[] back() {
        return new int[] {9, 0, 0, 0};
    }

    static int[] by(int a) {
        return new int[] {10, a, 0, 0};
    }

    static int[] halt() {
        return new int[] {11, 0, 0, 0};
    }

    /** An object with this WAY, DEPTH and PROGRAM; no RUN yet. */
    static GuessFetch program(int way, int depth, int[]... acts) {
        GuessFetch x = new GuessFetch();
        x.way(way, depth);
        for (int[] act : acts) {
            x.act(act[0], act[1], act[2], act[3]);
        }
        return x;
    }

    /** The ACT so many times. */
    static int[][] times(int n, int[] act) {
        int[][] acts = new int[n][];
        for (int k = 0; k < n; k++) {
            acts[k] = act;
        }
        return acts;
    }

    /** TARGETS at this place become these. */
    static void target(GuessFetch x, int place, int address, int kind, int goal) {
        x.harm(3, place, address);
        x.harm(4, place, kind);
        x.harm(5, place, goal);
    }

    /** The ACT at this ADDRESS stands in TARGETS as one of this kind that goes there. */
    static void known(GuessFetch x, int address, int kind, int goal) {
        target(x, address % 8, address, kind, goal);
    }

    static GuessFetch begun(GuessFetch x, int cycles) {
        x.begin();
        if (cycles > 0) {
            x.run(cycles);
        }
        return x;
    }
}
