/** Counts the answers that are not the ones due, and ends the test with exit code 1 if there was one. */
final class Check {
    private static int wrong = 0;
    private static int asked = 0;

    private Check() {
    }

    static void due(String what, long got, long want) {
        asked++;
        if (got != want) {
            wrong++;
            System.out.println(what + " answered " + got + ", due is " + want);
        }
    }

    static void due(String what, boolean got, boolean want) {
        due(what, got ? 1L : 0L, want ? 1L : 0L);
    }

    static void due(String what, String got, String want) {
        asked++;
        if (!got.equals(want)) {
            wrong++;
            System.out.println(what + " answered " + got + ", due is " + want);
        }
    }

    /** One piece, whole: its sort, and its corners as x, y, x, y and so on. */
    static void piece(String what, StrokePieces x, int i, int sort, int... places) {
        due(what + ": sort(" + i + ")", x.sort(i), sort);
        for (int k = 0; k < 4; k++) {
            for (int n = 0; n < 2; n++) {
                int at = 2 * k + n;
                int want = at < places.length ? places[at] : 0;
                due(what + ": corner(" + i + ", " + k + ", " + n + ")", x.corner(i, k, n), want);
            }
        }
    }

    static boolean anyWrong() {
        return wrong > 0;
    }

    static void end() {
        System.out.println(asked + " answers looked at, " + wrong + " wrong");
        if (wrong > 0) {
            System.exit(1);
        }
    }
}
