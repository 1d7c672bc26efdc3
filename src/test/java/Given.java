/** What tests begin with: a pen, rows and dashes, each of which must be taken. */
final class Given {
    private Given() {
    }

    /** A new object with a pen. */
    static StrokePieces pen(int half, int cap, int join, int limit) {
        StrokePieces x = new StrokePieces();
        Check.due("pen for a test", x.pen(half, cap, join, limit), true);
        return x;
    }

    /** A row of points, as x, y, x, y and so on. */
    static void row(StrokePieces x, int... places) {
        Check.due("move for a test", x.move(places[0], places[1]) > 0, true);
        for (int i = 2; i + 1 < places.length; i += 2) {
            Check.due("line for a test", x.line(places[i], places[i + 1]) > 0, true);
        }
    }

    static void ring(StrokePieces x, int... places) {
        row(x, places);
        Check.due("close for a test", x.close() > 0, true);
    }

    static void dashes(StrokePieces x, int offset, int... lengths) {
        for (int k = 0; k < lengths.length; k++) {
            Check.due("length for a test", x.length(k, lengths[k]), true);
        }
        Check.due("dashes for a test", x.dashes(lengths.length, offset), true);
    }
}
