/** Compares answers with what is due, prints those that differ, and ends a test. */
final class Due {
    private static int compared = 0;
    private static int wrong = 0;

    private Due() {
    }

    static void is(String call, long got, long want) {
        compared++;
        if (got != want) {
            wrong++;
            if (wrong <= 40) {
                System.out.println(call + " answered " + got + ", due is " + want);
            }
        }
    }

    static void isTrue(String what, boolean holds) {
        is(what, holds ? 1 : 0, 1);
    }

    static boolean anyWrong() {
        return wrong > 0;
    }

    static void end() {
        if (compared == 0) {
            System.out.println("nothing was compared");
        }
        if (wrong > 0) {
            System.out.println(wrong + " of " + compared + " answers are not as due");
        }
        if (wrong > 0 || compared == 0) {
            System.exit(1);
        }
        System.out.println(compared + " answers are as due");
    }
}
