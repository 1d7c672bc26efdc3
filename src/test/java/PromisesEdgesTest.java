/**
 * Each sentence of the promises that names a boundary or a refused call, in the document's order: the sentence stands
 * above its test. A refused call must leave all that can be seen as it was.
 */
final class PromisesEdgesTest {
    private static final int FAR = 536870912;
    private static final int MAX = Integer.MAX_VALUE;
    private static final int MIN = Integer.MIN_VALUE;
    private static final int[][] BEYOND = {{FAR + 1, 0}, {-FAR - 1, 0}, {0, FAR + 1}, {0, -FAR - 1},
        {FAR + 1, -FAR - 1}, {MAX, 0}, {0, MAX}, {MIN, 0}, {0, MIN}, {MAX, MIN}};

    private PromisesEdgesTest() {
    }

    public static void main(String[] args) {
        objectsAreApart();
        newObject();
        moveRefused();
        lineWithoutARow();
        lineBehindAClosedRow();
        lineRefused();
        closeWithoutARow();
        closeAgain();
        clearNothing();
        clearAll();
        clearKeepsTheRest();
        penRefused();
        lengthRefused();
        lengthsAreUsedByDashesOnly();
        dashesTheFirst();
        dashesRefused();
        dashesAllOfNoLength();
        dashesNone();
        strokeNothing();
        strokeRange();
        strokeFull();
        strokeWhicheverComesFirst();
        strokeWhicheverComesFirstOfDashes();
        piecesOfTheLatestStroke();
        sortNoneSuch();
        cornerNoneSuch();
        cornerOfABevelWhereAMitreWas();
        walkedBefore();
        walkedWhenRefused();
        walkedWithoutPieces();
        walkedOfTheLatestStroke();
        Check.end();
    }

    /** All that can be seen of the pieces, without a change. */
    private static String seen(StrokePieces x) {
        StringBuilder text = new StringBuilder();
        text.append(x.pieces()).append(" pieces, ").append(x.walked()).append(" walked");
        for (int i = 0; i <= x.pieces(); i++) {
            text.append("; ").append(x.sort(i));
            for (int k = 0; k < 4; k++) {
                text.append(' ').append(x.corner(i, k, 0)).append(',').append(x.corner(i, k, 1));
            }
        }
        return text.toString();
    }

    /** What a stroke makes is the same as it was before. */
    private static void strokesTheSame(String what, StrokePieces x, String before) {
        Check.due(what + ", seen", seen(x), before);
        x.stroke();
        Check.due(what + ", stroked again", seen(x), before);
    }

    /** Dashes, caps and mitres, stroked. */
    private static StrokePieces dashedCorner() {
        StrokePieces x = Given.pen(4, 1, 0, 655360);
        Given.dashes(x, 3, 50, 7);
        Given.row(x, 0, 0, 40, 0, 40, 30);
        Check.due("dashes round a corner", x.stroke(), 8);
        Check.due("three of them", x.walked(), 3);
        return x;
    }

    /** "All memory is the class's own rows.": what one object is told, another one does not know. */
    private static void objectsAreApart() {
        StrokePieces x = new StrokePieces();
        StrokePieces y = dashedCorner();
        String before = seen(y);
        Check.due("no row of the other one", x.line(0, 0), StrokePieces.NO);
        Check.due("no length of it", x.dashes(2, 0), false);
        Given.row(x, 0, 0, 90000, 0);
        Check.due("no caps and no dashes of it", x.stroke(), 1);
        Check.due("nor its half width", x.corner(0, 0, 1), 32768);
        Check.due("points of its own", x.clear(), 2);
        strokesTheSame("the other one", y, before);
    }

    /** Promise 1: "No rows, the pen as said, no dashes, no pieces." */
    private static void newObject() {
        StrokePieces x = new StrokePieces();
        Check.due("nothing", seen(x), "0 pieces, 0 walked; -1 0,0 0,0 0,0 0,0");
        Check.due("no row to go on", x.line(0, 0), StrokePieces.NO);
        Check.due("no row to close", x.close(), StrokePieces.NO);
        Check.due("no points", x.clear(), 0);
        Check.due("nothing to stroke", x.stroke(), 0);
        for (int n = 1; n <= 8; n++) {
            Check.due("no lengths", x.dashes(n, 0), false);
        }
        Given.row(x, 0, 0, 90000, 0, 90000, 90000);
        Check.due("no caps", x.stroke(), 3);
        Check.due("no dashes", x.walked(), 0);
        Check.piece("the half width", x, 0, 0, 0, 32768, 90000, 32768, 90000, -32768, 0, -32768);
        Check.piece("a mitre", x, 1, 2, 90000, 0, 90000, -32768, 122768, -32768, 122768, 0);
    }

    /** Promise 2: "RANGE; FULL." FULL, behind 2000 points, cannot be seen within 512 calls. */
    private static void moveRefused() {
        for (int[] p : BEYOND) {
            StrokePieces x = new StrokePieces();
            Check.due("beyond", x.move(p[0], p[1]), StrokePieces.RANGE);
            Check.due("no row has begun", x.line(0, 0), StrokePieces.NO);
            Check.due("none to close", x.close(), StrokePieces.NO);
            Check.due("the first point", x.move(0, 0), 1);
            x = dashedCorner();
            String before = seen(x);
            Check.due("beyond, behind a row", x.move(p[0], p[1]), StrokePieces.RANGE);
            strokesTheSame("beyond, behind a row", x, before);
            Check.due("that row goes on", x.line(9, 9), 4);
            x.close();
            Check.due("beyond, behind a closed row", x.move(p[0], p[1]), StrokePieces.RANGE);
            Check.due("that row is closed still", x.line(9, 9), StrokePieces.NO);
            Check.due("no point more", x.clear(), 4);
        }
    }

    /** Promise 3: "NO when there is none". A place beyond makes no difference: there is no row to go on. */
    private static void lineWithoutARow() {
        StrokePieces x = new StrokePieces();
        Check.due("none", x.line(1, 1), StrokePieces.NO);
        for (int[] p : BEYOND) {
            Check.due("none, and beyond", x.line(p[0], p[1]), StrokePieces.NO);
        }
        Check.due("no point, no row", x.stroke(), 0);
        Check.due("the first point", x.move(5, 5), 1);
        Check.due("now there is one", x.line(1, 1), 2);
        x.clear();
        Check.due("none is left", x.line(1, 1), StrokePieces.NO);
    }

    /** Promise 3: "or it is closed." */
    private static void lineBehindAClosedRow() {
        StrokePieces x = dashedCorner();
        x.close();
        x.stroke();
        String before = seen(x);
        Check.due("closed", x.line(1, 1), StrokePieces.NO);
        for (int[] p : BEYOND) {
            Check.due("closed, and beyond", x.line(p[0], p[1]), StrokePieces.NO);
        }
        strokesTheSame("closed", x, before);
        Check.due("a new row", x.move(5, 5), 4);
        Check.due("is not closed", x.line(6, 5), 5);
        x.close();
        x.close();
        Check.due("closed twice", x.line(1, 1), StrokePieces.NO);
        x.clear();
        x.move(5, 5);
        Check.due("nor is the first one where a closed one was", x.line(6, 5), 2);
    }

    /** Promise 3: "The latest row goes on to a point: likewise." */
    private static void lineRefused() {
        for (int[] p : BEYOND) {
            StrokePieces x = dashedCorner();
            String before = seen(x);
            Check.due("beyond", x.line(p[0], p[1]), StrokePieces.RANGE);
            strokesTheSame("beyond", x, before);
            Check.due("no point more, and open still", x.line(0, 30), 4);
            Check.due("the latest row is another", x.move(1, 1), 5);
            Check.due("beyond", x.line(p[0], p[1]), StrokePieces.RANGE);
            Check.due("that goes on", x.line(2, 1), 6);
        }
    }

    /** Promise 4: "NO when there is none." */
    private static void closeWithoutARow() {
        StrokePieces x = new StrokePieces();
        Check.due("none", x.close(), StrokePieces.NO);
        Given.row(x, 0, 0, 90000, 0);
        Check.due("the refused call closed nothing that came later", x.stroke(), 1);
        x.clear();
        Check.due("none is left", x.close(), StrokePieces.NO);
        x.move(FAR + 1, 0);
        Check.due("nor has a refused one begun", x.close(), StrokePieces.NO);
    }

    /** Promise 4: "The latest row is closed: how many points." */
    private static void closeAgain() {
        StrokePieces x = Given.pen(4, 0, 1, 655360);
        Given.row(x, 0, 0, 100, 0, 100, 100);
        Given.row(x, 500, 0, 600, 0, 600, 100);
        Check.due("the points of all rows", x.close(), 6);
        Check.due("the latest one alone", x.stroke(), 3 + 6);
        String before = seen(x);
        Check.due("again", x.close(), 6);
        strokesTheSame("again", x, before);
        Check.due("a row of one point", x.move(7, 7), 7);
        Check.due("closed", x.close(), 7);
        Check.due("without a change to the others", x.stroke(), 9);
        Check.due("the pieces stay till a stroke", x.close(), 7);
        Check.due("as they were", seen(x), before);
    }

    /** Promise 5: "how many points there were": none. */
    private static void clearNothing() {
        StrokePieces x = new StrokePieces();
        Check.due("none", x.clear(), 0);
        x.move(FAR + 1, 0);
        x.line(0, 0);
        Check.due("refused ones are none", x.clear(), 0);
        x.move(3, 3);
        x.line(3, 3);
        x.line(FAR + 1, 3);
        x.close();
        x.line(4, 4);
        Check.due("points that are passed over are there", x.clear(), 2);
        Check.due("none again", x.clear(), 0);
        Check.due("the next one is the first", x.move(0, 0), 1);
    }

    /** Promise 5: "All rows go, and all pieces" */
    private static void clearAll() {
        StrokePieces x = dashedCorner();
        Given.row(x, 0, 90, 50, 90);
        x.close();
        x.stroke();
        Check.due("points of two rows", x.clear(), 5);
        Check.due("no pieces", x.pieces(), 0);
        Check.due("no sort", x.sort(0), StrokePieces.BAD);
        Check.due("no corner", x.corner(0, 1, 0), 0);
        Check.due("nothing to go on", x.line(0, 0), StrokePieces.NO);
        Check.due("nothing to close", x.close(), StrokePieces.NO);
        Check.due("nothing to stroke", x.stroke(), 0);
        Check.due("nothing to walk", x.walked(), 0);
    }

    /** Promise 5 names rows and pieces alone: the pen, the lengths and the dashes stay. */
    private static void clearKeepsTheRest() {
        StrokePieces x = dashedCorner();
        String before = seen(x);
        x.length(0, 20);
        x.clear();
        Given.row(x, 0, 0, 40, 0, 40, 30);
        x.stroke();
        Check.due("the pen and the dashes", seen(x), before);
        Check.due("the lengths", x.dashes(2, 0), true);
        x.stroke();
        // 20, 7 (a gap), 20 round the corner, 7, 16: three dashes with caps, one of them with a join.
        Check.due("20 and 7", x.pieces(), 11);
        Check.due("five of them", x.walked(), 5);
    }

    /** Promise 6: "true; false when one of these is none such." */
    private static void penRefused() {
        int[][] bad = {{0, 0, 1, 65536}, {4194305, 0, 1, 65536}, {-1, 0, 1, 65536}, {MIN, 0, 1, 65536},
            {MAX, 0, 1, 65536}, {9, -1, 1, 65536}, {9, 2, 1, 65536}, {9, MIN, 1, 65536}, {9, MAX, 1, 65536},
            {9, 0, -1, 65536}, {9, 0, 2, 65536}, {9, 0, MIN, 65536}, {9, 0, MAX, 65536},
            {9, 0, 1, 65535}, {9, 0, 1, 6553601}, {9, 0, 1, 0}, {9, 0, 1, MIN}, {9, 0, 1, MAX}, {0, 2, 2, 0}};
        for (int[] p : bad) {
            StrokePieces x = dashedCorner();
            String before = seen(x);
            Check.due("none such", x.pen(p[0], p[1], p[2], p[3]), false);
            strokesTheSame("none such", x, before);
        }
        int[][] good = {{1, 0, 0, 65536}, {4194304, 1, 1, 6553600}};
        for (int[] p : good) {
            StrokePieces x = dashedCorner();
            String before = seen(x);
            Check.due("the least and the most", x.pen(p[0], p[1], p[2], p[3]), true);
            Check.due("the pieces stay till a stroke", seen(x), before);
            x.stroke();
            Check.due("and are others then", seen(x).equals(before), false);
        }
        // The limit of a refused pen is not taken either: a right angle has no mitre at 65536.
        StrokePieces x = Given.pen(4, 0, 0, 92682);
        Given.row(x, 0, 0, 100, 0, 100, 100);
        x.pen(0, 0, 0, 65536);
        x.stroke();
        Check.due("a mitre still", x.sort(1), 2);
    }

    /** Promise 7: "Length k of the dashes (0 .. 7) [...] true; false when it is none such." */
    private static void lengthRefused() {
        StrokePieces x = Given.pen(1, 0, 0, 655360);
        for (int k = 0; k <= 7; k++) {
            Check.due("the least", x.length(k, 0), true);
            Check.due("the most", x.length(k, FAR), true);
            Check.due("one between", x.length(k, k + 1), true);
        }
        for (int k : new int[] {-1, 8, 9, MIN, MAX}) {
            Check.due("k = " + k, x.length(k, 30), false);
        }
        for (int units : new int[] {-1, FAR + 1, MIN, MAX}) {
            for (int k = 0; k <= 7; k++) {
                Check.due("units = " + units, x.length(k, units), false);
            }
        }
        Given.row(x, 0, 0, 36, 0);
        Check.due("all eight are as they were", x.dashes(8, 0), true);
        Check.due("four dashes", x.stroke(), 4);
        int[] ends = {0, 1, 3, 6, 10, 15, 21, 28};
        for (int i = 0; i < 4; i++) {
            Check.due("from", x.corner(i, 0, 0), ends[2 * i]);
            Check.due("to", x.corner(i, 1, 0), ends[2 * i + 1]);
        }
    }

    /** Promise 7: "which are used by dashes() only" */
    private static void lengthsAreUsedByDashesOnly() {
        StrokePieces x = dashedCorner();
        String before = seen(x);
        Check.due("another length", x.length(0, 5), true);
        Check.due("one that is not among the dashes", x.length(2, 1), true);
        strokesTheSame("other lengths", x, before);
        x = dashedCorner();
        x.length(0, 0);
        x.length(1, 0);
        strokesTheSame("lengths of 0", x, before);
        Check.due("now they are used, and refused", x.dashes(2, 3), false);
        strokesTheSame("refused", x, before);
        x = new StrokePieces();
        x.length(0, 5);
        Given.row(x, 0, 0, 90000, 0);
        Check.due("not before dashes()", x.stroke(), 1);
        Check.due("nothing is walked", x.walked(), 0);
    }

    /** Promise 8: "The first n lengths are the dashes": of eight that are there, along 40 units. */
    private static void dashesTheFirst() {
        int[] pieces = {20, 14, 11, 8, 7, 6, 6, 6};
        int[] walked = {40, 27, 21, 16, 14, 12, 12, 11};
        for (int n = 1; n <= 8; n++) {
            StrokePieces x = Given.pen(1, 0, 0, 655360);
            Given.row(x, 0, 0, 40, 0);
            Given.dashes(x, 0, 1, 2, 3, 4, 5, 6, 7, 8);
            Check.due("n = " + n, x.dashes(n, 0), true);
            Check.due("pieces of " + n, x.stroke(), pieces[n - 1]);
            Check.due("walked of " + n, x.walked(), walked[n - 1]);
        }
    }

    /** Promise 8: "false when n is not 0 .. 8, the offset is none such" */
    private static void dashesRefused() {
        int[][] bad = {{-1, 0}, {9, 0}, {MIN, 0}, {MAX, 0}, {2, -1}, {2, FAR + 1}, {2, MIN}, {2, MAX}, {0, -1},
            {0, FAR + 1}, {0, MIN}, {0, MAX}, {-1, -1}, {9, FAR + 1}};
        for (int[] p : bad) {
            StrokePieces x = dashedCorner();
            String before = seen(x);
            x.length(0, 9);
            Check.due("dashes(" + p[0] + ", " + p[1] + ")", x.dashes(p[0], p[1]), false);
            strokesTheSame("refused", x, before);
        }
        StrokePieces x = Given.pen(4, 0, 0, 655360);
        Given.row(x, 0, 0, 40, 0);
        x.length(0, 9);
        x.dashes(1, -1);
        x.dashes(9, 0);
        Check.due("no dashes still", x.stroke(), 1);
        Check.due("none walked", x.walked(), 0);
        Check.due("the least", x.dashes(1, 0), true);
        Check.due("the most", x.dashes(8, FAR), true);
    }

    /** Promise 8: "or n is above 0 and all n lengths are 0." */
    private static void dashesAllOfNoLength() {
        for (int k = 0; k <= 7; k++) {
            StrokePieces x = new StrokePieces();
            x.length(k, 1);
            for (int n = 1; n <= 8; n++) {
                Check.due("length " + k + " alone, n = " + n, x.dashes(n, 0), n > k);
            }
            Check.due("that one is 0 again", x.length(k, 0), true);
            Check.due("all are", x.dashes(8, 0), false);
            Check.due("all are, with an offset", x.dashes(8, FAR), false);
        }
    }

    /** Promise 8: "n = 0: none: true" */
    private static void dashesNone() {
        StrokePieces x = new StrokePieces();
        Check.due("with no lengths", x.dashes(0, 0), true);
        Check.due("with the greatest offset", x.dashes(0, FAR), true);
        x = dashedCorner();
        Check.due("none", x.dashes(0, 7), true);
        Check.due("the pieces stay till a stroke", x.pieces(), 8);
        Check.due("whole lines", x.stroke(), 5);
        Check.due("are not walked", x.walked(), 0);
        Check.due("the lengths are there still", x.dashes(2, 3), true);
        Check.due("dashes again", x.stroke(), 8);
    }

    /** Promise 9: "All rows are stroked, in turn: how many pieces." */
    private static void strokeNothing() {
        StrokePieces x = Given.pen(4, 1, 0, 655360);
        Check.due("no rows", x.stroke(), 0);
        x.move(5, 5);
        Check.due("a point", x.stroke(), 0);
        x.line(5, 5);
        Check.due("the same point", x.stroke(), 0);
        x.line(5, 6);
        Check.due("one unit", x.stroke(), 3);
        Given.row(x, 100, 0, 200, 0);
        Check.due("two rows", x.stroke(), 6);
        Check.due("the first one first", x.corner(1, 0, 0), 1);
        Check.due("then the second one", x.corner(4, 0, 0), 100);
        String before = seen(x);
        strokesTheSame("each stroke is by itself", x, before);
    }

    /** Promise 9: "With RANGE (a corner would be beyond) [...] there are none." */
    private static void strokeRange() {
        StrokePieces x = dashedCorner();
        String before = seen(x);
        x.move(FAR - 3, 0);
        x.line(FAR - 3, 9);
        Check.due("the last of many corners", x.stroke(), StrokePieces.RANGE);
        Check.due("none", seen(x), "0 pieces, 0 walked; -1 0,0 0,0 0,0 0,0");
        Check.due("again", x.stroke(), StrokePieces.RANGE);
        Check.due("the rows are there", x.clear(), 5);
        Given.row(x, 0, 0, 40, 0, 40, 30);
        Check.due("the next stroke is by itself", x.stroke(), 8);
        Check.due("with all its pieces", seen(x), before);
        x.clear();
        x.pen(4, 0, 0, 655360);
        Given.row(x, FAR - 4, 0, FAR - 4, 9);
        Check.due("at the edge", x.stroke(), 1);
        Check.due("its corner is the edge", x.corner(0, 2, 0), FAR);
    }

    /** Promise 9: "and FULL (more than 2000 pieces, or 20000 dashes) [...] there are none." */
    private static void strokeFull() {
        StrokePieces x = dashedCorner();
        String before = seen(x);
        Given.row(x, 0, 90, 570000, 90);
        Check.due("more than 2000 pieces", x.stroke(), StrokePieces.FULL);
        Check.due("none", seen(x), "0 pieces, 0 walked; -1 0,0 0,0 0,0 0,0");
        x.clear();
        Given.row(x, 0, 0, 40, 0, 40, 30);
        Check.due("the next stroke is by itself", x.stroke(), 8);
        Check.due("with all its pieces", seen(x), before);
        Given.dashes(x, 0, 0, 1);
        Given.row(x, 0, 90, 10001, 90);
        Check.due("more than 20000 dashes", x.stroke(), StrokePieces.FULL);
        Check.due("none", seen(x), "0 pieces, 0 walked; -1 0,0 0,0 0,0 0,0");
        Check.due("again", x.stroke(), StrokePieces.FULL);
        Given.dashes(x, 3, 50, 7);
        x.clear();
        Given.row(x, 0, 0, 40, 0, 40, 30);
        Check.due("the next one is by itself, too", x.stroke(), 8);
        Check.due("with all its pieces", seen(x), before);
    }

    /** Promise 9: "whichever comes first as pieces and dashes are made": pieces. */
    private static void strokeWhicheverComesFirst() {
        StrokePieces x = Given.pen(4, 0, 0, 655360);
        Given.dashes(x, 0, 1);
        int edge = FAR - 3;
        Given.row(x, 0, 0, 3999, 0);
        Check.due("2000 pieces", x.stroke(), 2000);
        Given.row(x, 0, 9, 1, 9);
        Given.row(x, 0, edge, 1, edge);
        Check.due("the 2001st, then one beyond", x.stroke(), StrokePieces.FULL);
        x.clear();
        Given.row(x, 0, 0, 3999, 0);
        Given.row(x, 0, edge, 1, edge);
        Check.due("a 2001st is not made, so that it has no corner beyond", x.stroke(), StrokePieces.FULL);
        x.clear();
        Given.row(x, 0, 0, 3997, 0);
        Given.row(x, 0, edge, 1, edge);
        Given.row(x, 0, 9, 9, 9);
        Check.due("the 2000th is beyond, then more", x.stroke(), StrokePieces.RANGE);
        x.clear();
        Given.row(x, 0, edge, 1, edge);
        Given.row(x, 0, 0, 9999, 0);
        Check.due("the first one is beyond", x.stroke(), StrokePieces.RANGE);
        x.clear();
        Given.row(x, 0, 0, 9999, 0);
        Given.row(x, 0, edge, 1, edge);
        Check.due("one beyond behind many more", x.stroke(), StrokePieces.FULL);
    }

    /** The same: dashes and gaps, which are 7 L - 6 in L units, and then 2 L - 1. */
    private static void strokeWhicheverComesFirstOfDashes() {
        StrokePieces x = Given.pen(4, 0, 0, 655360);
        Given.dashes(x, 0, 1, 0, 0, 0, 0, 0, 0);
        int edge = FAR - 3;
        Given.row(x, 0, 0, 2857, 0);
        Given.row(x, 0, edge, 1, edge);
        Check.due("the 19994th is beyond", x.stroke(), StrokePieces.RANGE);
        x.line(5000, edge);
        Check.due("and then there are more than 20000", x.stroke(), StrokePieces.RANGE);
        x.clear();
        Given.row(x, 0, 0, 2858, 0);
        Check.due("20000", x.stroke(), 1429);
        Given.row(x, 0, edge, 1, edge);
        Check.due("the 20001st would be beyond", x.stroke(), StrokePieces.FULL);
        x.clear();
        Given.dashes(x, 0, 0, 1);
        Given.row(x, 0, edge, 10000, edge);
        Check.due("gaps and dashes of no length have no corners", x.stroke(), 0);
        Check.due("19999 of them", x.walked(), 19999);
        x.line(10001, edge);
        Check.due("more than 20000, none beyond", x.stroke(), StrokePieces.FULL);
    }

    /** Promise 10: "How many pieces there are." */
    private static void piecesOfTheLatestStroke() {
        StrokePieces x = Given.pen(4, 0, 0, 655360);
        Check.due("before a stroke", x.pieces(), 0);
        Given.row(x, 0, 0, 100, 0);
        Check.due("rows are no pieces", x.pieces(), 0);
        x.stroke();
        Check.due("one", x.pieces(), 1);
        Given.dashes(x, 0, 1);
        x.line(3999, 0);
        Check.due("of the latest stroke", x.pieces(), 1);
        x.stroke();
        Check.due("the most", x.pieces(), 2000);
        x.line(4001, 0);
        x.stroke();
        Check.due("too many are none", x.pieces(), 0);
        x.dashes(0, 0);
        x.stroke();
        Check.due("three sides", x.pieces(), 3);
        x.clear();
        Check.due("cleared", x.pieces(), 0);
    }

    /** Promise 11: "BAD when there is none such." */
    private static void sortNoneSuch() {
        StrokePieces x = new StrokePieces();
        int[] never = {-1, -2, MIN, MIN + 1, 2000, 2001, MAX, MAX - 1};
        Check.due("before a stroke", x.sort(0), StrokePieces.BAD);
        x = Given.pen(4, 1, 0, 655360);
        Given.row(x, 0, 0, 3999, 0);
        x.stroke();
        Check.due("the first one", x.sort(0), 3);
        Check.due("the last one", x.sort(2), 3);
        Check.due("one behind it", x.sort(3), StrokePieces.BAD);
        x.pen(4, 0, 0, 655360);
        Given.dashes(x, 0, 1);
        x.stroke();
        Check.due("the last one of 2000", x.sort(1999), 0);
        for (int i : never) {
            Check.due("sort(" + i + ")", x.sort(i), StrokePieces.BAD);
        }
        x.dashes(0, 0);
        x.stroke();
        Check.due("one of the stroke before", x.sort(1), StrokePieces.BAD);
        x.clear();
        Check.due("cleared", x.sort(0), StrokePieces.BAD);
    }

    /** Promise 12: "0 when there is none such." */
    private static void cornerNoneSuch() {
        StrokePieces x = new StrokePieces();
        Check.due("before a stroke", x.corner(0, 0, 0), 0);
        x = Given.pen(4, 0, 0, 655360);
        Given.row(x, 1000, 1000, 1000, 4999);
        Given.dashes(x, 0, 1);
        Check.due("2000 pieces", x.stroke(), 2000);
        Check.piece("the first one", x, 0, 0, 996, 1000, 996, 1001, 1004, 1001, 1004, 1000);
        Check.piece("the last one", x, 1999, 0, 996, 4998, 996, 4999, 1004, 4999, 1004, 4998);
        for (int i : new int[] {-1, MIN, 2000, 2001, MAX, 268435456, 536870912, -268435456}) {
            for (int k = 0; k < 4; k++) {
                Check.due("no piece " + i, x.corner(i, k, 0), 0);
                Check.due("no piece " + i, x.corner(i, k, 1), 0);
            }
        }
        for (int i : new int[] {0, 1, 1998, 1999}) {
            for (int k : new int[] {-1, 4, 5, -4, MIN, MAX, 1073741824, -1073741824}) {
                Check.due("no corner " + k, x.corner(i, k, 0), 0);
                Check.due("no corner " + k, x.corner(i, k, 1), 0);
            }
            for (int what : new int[] {-1, 2, 3, MIN, MAX}) {
                for (int k = 0; k < 4; k++) {
                    Check.due("what = " + what, x.corner(i, k, what), 0);
                }
            }
        }
        x.dashes(0, 0);
        x.stroke();
        Check.due("one of the stroke before", x.corner(1, 0, 0), 0);
        x.clear();
        Check.due("cleared", x.corner(0, 0, 0), 0);
    }

    /** The same: a bevel has three corners, also where a piece of four was before. */
    private static void cornerOfABevelWhereAMitreWas() {
        StrokePieces x = Given.pen(4, 0, 0, 655360);
        Given.row(x, 1000, 1000, 1100, 1000, 1100, 1100);
        x.stroke();
        Check.piece("a mitre", x, 1, 2, 1100, 1000, 1100, 996, 1104, 996, 1104, 1000);
        x.pen(4, 0, 1, 655360);
        x.stroke();
        Check.piece("a bevel", x, 1, 1, 1100, 1000, 1100, 996, 1104, 1000);
        for (int k : new int[] {-1, 3, 4}) {
            Check.due("no corner " + k, x.corner(1, k, 0), 0);
            Check.due("no corner " + k, x.corner(1, k, 1), 0);
        }
    }

    /** Promise 13: "0 before" */
    private static void walkedBefore() {
        StrokePieces x = new StrokePieces();
        Check.due("a new object", x.walked(), 0);
        Given.dashes(x, 0, 5);
        Given.row(x, 0, 0, 100, 0);
        Check.due("dashes and rows, but no stroke", x.walked(), 0);
        x.stroke();
        Check.due("behind it", x.walked(), 20);
    }

    /** Promise 13: "and when it answered none": RANGE or FULL, with which there are none. */
    private static void walkedWhenRefused() {
        StrokePieces x = dashedCorner();
        x.move(FAR, 0);
        x.line(FAR, 9);
        Check.due("beyond", x.stroke(), StrokePieces.RANGE);
        Check.due("none", x.walked(), 0);
        x = dashedCorner();
        Given.row(x, 0, 90, 570000, 90);
        Check.due("too many pieces", x.stroke(), StrokePieces.FULL);
        Check.due("none", x.walked(), 0);
        x = dashedCorner();
        Given.dashes(x, 0, 0, 1);
        Given.row(x, 0, 90, 10001, 90);
        Check.due("too many dashes", x.stroke(), StrokePieces.FULL);
        Check.due("none", x.walked(), 0);
    }

    /** Promise 13: "How many dashes and gaps the latest stroke walked", also of one that made no pieces. */
    private static void walkedWithoutPieces() {
        StrokePieces x = new StrokePieces();
        Given.dashes(x, 0, 0, 1);
        Given.row(x, 0, 0, 11, 0);
        Check.due("gaps and dashes of no length", x.stroke(), 0);
        Check.due("are walked", x.walked(), 21);
        x.clear();
        Given.row(x, 5, 5, 5, 5);
        Check.due("a run of one point", x.stroke(), 0);
        Check.due("is not", x.walked(), 0);
        x.clear();
        Check.due("no rows", x.stroke(), 0);
        Check.due("nothing", x.walked(), 0);
    }

    /** The same: "the latest stroke", whatever else is called behind it. */
    private static void walkedOfTheLatestStroke() {
        StrokePieces x = dashedCorner();
        Given.row(x, 0, 90, 10, 90);
        x.pen(9, 0, 0, 655360);
        x.dashes(1, 0);
        x.dashes(0, 0);
        x.close();
        Check.due("other rows, pen and dashes", x.walked(), 3);
        x.clear();
        Check.due("cleared", x.walked(), 3);
        x.stroke();
        Check.due("a stroke of nothing", x.walked(), 0);
        x = dashedCorner();
        x.dashes(0, 0);
        x.stroke();
        Check.due("a stroke without dashes", x.walked(), 0);
    }
}
