/** Each promise with ordinary inputs, its edges and wrong inputs; the answers are worked out apart from the class. */
final class PromisesTest {
    private static final int FAR = 536870912;
    private static final int MAX = Integer.MAX_VALUE;
    private static final int MIN = Integer.MIN_VALUE;

    private PromisesTest() {
    }

    public static void main(String[] args) {
        promise1New();
        promise1DefaultLimit();
        promise2Move();
        promise3Line();
        promise4Close();
        promise4CloseEdges();
        promise5Clear();
        promise6Pen();
        promise6KeepsOldPen();
        promise6MitreLimit();
        promise7Length();
        promise8Dashes();
        promise8KeepsOldDashes();
        promise8Offset();
        promise8GreatOffset();
        promise9Corner();
        promise9MitrePeak();
        promise9Halves();
        promise9PassedOver();
        promise9Cuts();
        promise9DashRoundCorner();
        promise9DashedRing();
        promise9RangeEdge();
        promise9RangeOfEachKind();
        promise9MostPieces();
        promise9MostDashes();
        promise9RunsOfOnePointTakeNoDash();
        promise9ManyRunsOfOnePoint();
        promise9WhicheverComesFirst();
        promise9PiecesBeforeNextDash();
        promise10Pieces();
        promise11Sort();
        promise12Corner();
        promise13Walked();
        promise13RunsOfOnePoint();
        Check.end();
    }

    private static void promise1New() {
        StrokePieces x = new StrokePieces();
        Check.due("1: pieces", x.pieces(), 0);
        Check.due("1: walked", x.walked(), 0);
        Check.due("1: sort", x.sort(0), StrokePieces.BAD);
        Check.due("1: corner", x.corner(0, 0, 0), 0);
        Check.due("1: line", x.line(0, 0), StrokePieces.NO);
        Check.due("1: close", x.close(), StrokePieces.NO);
        Check.due("1: clear", x.clear(), 0);
        Check.due("1: stroke", x.stroke(), 0);
        Check.due("1: no lengths", x.dashes(8, 0), false);
        Given.row(x, 0, 0, 100000, 0, 100000, 100000);
        Check.due("1: stroke without caps and dashes", x.stroke(), 3);
        Check.due("1: walked without dashes", x.walked(), 0);
        Check.piece("1", x, 0, 0, 0, 32768, 100000, 32768, 100000, -32768, 0, -32768);
        Check.piece("1", x, 1, 2, 100000, 0, 100000, -32768, 132768, -32768, 132768, 0);
        Check.piece("1", x, 2, 0, 67232, 0, 67232, 100000, 132768, 100000, 132768, 0);
    }

    /** Turns of which one is just sharp enough for a mitre at 655360, and is not at 655200, and so on. */
    private static void promise1DefaultLimit() {
        int[] limits = {655200, 655360, 656000};
        int mitredOnlyFromDefault = 0;
        int mitredOnlyAboveDefault = 0;
        for (int dy = 202500; dy < 203500; dy += 20) {
            int[] sorts = new int[3];
            for (int i = 0; i < 3; i++) {
                StrokePieces x = i == 1 ? new StrokePieces() : Given.pen(32768, 0, 0, limits[i]);
                Given.row(x, 0, 0, 1000000, 0, 0, dy);
                x.stroke();
                sorts[i] = x.sort(1);
            }
            mitredOnlyFromDefault += sorts[0] == 1 && sorts[1] == 2 ? 1 : 0;
            mitredOnlyAboveDefault += sorts[1] == 1 && sorts[2] == 2 ? 1 : 0;
        }
        Check.due("1: the limit is 655360, not less", mitredOnlyFromDefault > 0, true);
        Check.due("1: the limit is 655360, not more", mitredOnlyAboveDefault > 0, true);
    }

    private static void promise2Move() {
        StrokePieces x = new StrokePieces();
        Check.due("2: first", x.move(FAR, -FAR), 1);
        Check.due("2: second", x.move(-FAR, FAR), 2);
        int[][] beyond = {{FAR + 1, 0}, {-FAR - 1, 0}, {0, FAR + 1}, {0, -FAR - 1}, {MAX, MIN}, {MIN, 0}, {0, MAX}};
        for (int[] p : beyond) {
            Check.due("2: beyond", x.move(p[0], p[1]), StrokePieces.RANGE);
        }
        Check.due("2: nothing was added", x.clear(), 2);
        Check.due("2: refused", x.move(FAR + 1, 0), StrokePieces.RANGE);
        Check.due("2: and began no row", x.line(0, 0), StrokePieces.NO);
        Given.row(x, 0, 0, 5, 0);
        Given.row(x, 50, 0, 55, 0);
        Check.due("2: two rows are not joined", x.stroke(), 2);
        for (int i = 5; i <= 400; i++) {
            Check.due("2: many", x.move(i, i), i);
        }
    }

    private static void promise3Line() {
        StrokePieces x = new StrokePieces();
        Check.due("3: none", x.line(0, 0), StrokePieces.NO);
        x.move(0, 0);
        Check.due("3: second", x.line(FAR, -FAR), 2);
        Check.due("3: same point counts", x.line(FAR, -FAR), 3);
        int[][] beyond = {{FAR + 1, 0}, {-FAR - 1, 0}, {0, FAR + 1}, {0, -FAR - 1}, {MAX, MIN}, {MIN, 0}, {0, MAX}};
        for (int[] p : beyond) {
            Check.due("3: beyond", x.line(p[0], p[1]), StrokePieces.RANGE);
        }
        Check.due("3: third", x.line(-FAR, FAR), 4);
        x.close();
        Check.due("3: closed", x.line(0, 0), StrokePieces.NO);
        Check.due("3: a new row", x.move(1, 1), 5);
        Check.due("3: is open", x.line(2, 2), 6);
        Check.due("3: a refused row", x.move(FAR + 1, 0), StrokePieces.RANGE);
        Check.due("3: leaves the latest one", x.line(3, 3), 7);
        x.clear();
        Check.due("3: cleared", x.line(0, 0), StrokePieces.NO);
        x.move(0, 0);
        for (int i = 2; i <= 450; i++) {
            Check.due("3: many", x.line(i, 0), i);
        }
        Check.due("3: all stroked", x.stroke(), 449);
    }

    private static void promise4Close() {
        StrokePieces x = Given.pen(4, 1, 0, 655360);
        Given.row(x, 0, 0, 100, 0, 100, 100, 0, 100);
        Check.due("4: points", x.close(), 4);
        Check.due("4: closed again", x.close(), 4);
        Check.due("4: a side and a join for each, no caps", x.stroke(), 8);
        Check.piece("4", x, 0, 0, 0, 4, 100, 4, 100, -4, 0, -4);
        Check.piece("4", x, 1, 2, 100, 0, 100, -4, 104, -4, 104, 0);
        Check.piece("4", x, 2, 0, 96, 0, 96, 100, 104, 100, 104, 0);
        Check.piece("4", x, 3, 2, 100, 100, 104, 100, 104, 104, 100, 104);
        Check.piece("4", x, 4, 0, 100, 96, 0, 96, 0, 104, 100, 104);
        Check.piece("4", x, 5, 2, 0, 100, 0, 104, -4, 104, -4, 100);
        Check.piece("4", x, 6, 0, 4, 100, 4, 0, -4, 0, -4, 100);
        Check.piece("4", x, 7, 2, 0, 0, -4, 0, -4, -4, 0, -4);
    }

    private static void promise4CloseEdges() {
        StrokePieces x = Given.pen(4, 0, 0, 655360);
        Check.due("4: none", x.close(), StrokePieces.NO);
        Given.row(x, 0, 0, 10, 0, 10, 10);
        x.move(500, 500);
        x.line(510, 500);
        Check.due("4: points of all rows", x.close(), 5);
        Check.due("4: the first row stays open, the second is two segments", x.stroke(), 5);
        x.clear();
        Check.due("4: cleared", x.close(), StrokePieces.NO);
        x.move(0, 0);
        Check.due("4: one point", x.close(), 1);
        x.move(0, 0);
        x.line(10, 0);
        Check.due("4: a row is open at first, also where a closed one was", x.stroke(), 1);
    }

    private static void promise5Clear() {
        StrokePieces x = Given.pen(4, 1, 1, 655360);
        Check.due("5: none", x.clear(), 0);
        Given.dashes(x, 0, 6, 2);
        Given.row(x, 0, 0, 10, 0);
        Given.row(x, 0, 50, 10, 50, 10, 60);
        x.close();
        Check.due("5: pieces before", x.stroke() > 0, true);
        Check.due("5: points", x.clear(), 5);
        Check.due("5: pieces", x.pieces(), 0);
        Check.due("5: sort", x.sort(0), StrokePieces.BAD);
        Check.due("5: corner", x.corner(0, 1, 0), 0);
        Check.due("5: none again", x.clear(), 0);
        Check.due("5: no row", x.line(0, 0), StrokePieces.NO);
        Check.due("5: nothing to stroke", x.stroke(), 0);
        Given.row(x, 0, 0, 10, 0);
        Check.due("5: the pen and the dashes stay", x.stroke(), 6);
        Check.piece("5", x, 4, 0, 8, 4, 10, 4, 10, -4, 8, -4);
    }

    private static void promise6Pen() {
        StrokePieces x = new StrokePieces();
        int[][] good = {{1, 0, 0, 65536}, {4194304, 1, 1, 6553600}, {7, 0, 1, 70000}, {7, 1, 0, 70000}};
        for (int[] p : good) {
            Check.due("6: good", x.pen(p[0], p[1], p[2], p[3]), true);
        }
        int[][] bad = {{0, 0, 0, 65536}, {-1, 0, 0, 65536}, {4194305, 0, 0, 65536}, {MAX, 0, 0, 65536},
            {MIN, 0, 0, 65536}, {1, -1, 0, 65536}, {1, 2, 0, 65536}, {1, MIN, 0, 65536}, {1, 0, -1, 65536},
            {1, 0, 2, 65536}, {1, 0, MAX, 65536}, {1, 0, 0, 65535}, {1, 0, 0, 6553601}, {1, 0, 0, 0},
            {1, 0, 0, -65536}, {1, 0, 0, MAX}, {1, 0, 0, MIN}};
        for (int[] p : bad) {
            Check.due("6: bad", x.pen(p[0], p[1], p[2], p[3]), false);
        }
    }

    private static void promise6KeepsOldPen() {
        StrokePieces x = Given.pen(4, 1, 0, 655360);
        Given.row(x, 0, 0, 100, 0, 100, 100);
        x.pen(9, 0, 1, 65535);
        x.pen(9, 0, 2, 65536);
        x.pen(9, 2, 1, 65536);
        x.pen(0, 0, 1, 65536);
        Check.due("6: caps and mitre stay", x.stroke(), 5);
        Check.piece("6", x, 0, 3, 0, -4, -4, -4, -4, 4, 0, 4);
        Check.piece("6", x, 2, 2, 100, 0, 100, -4, 104, -4, 104, 0);
        Check.piece("6", x, 4, 3, 96, 100, 96, 104, 104, 104, 104, 100);
        x.pen(9, 0, 1, 655360);
        Check.due("6: the pieces are of the old pen till the next stroke", x.pieces(), 5);
        Check.due("6: a new pen", x.stroke(), 3);
        Check.piece("6", x, 0, 0, 0, 9, 100, 9, 100, -9, 0, -9);
        Check.piece("6", x, 1, 1, 100, 0, 100, -9, 109, 0);
    }

    /** C is 1 at 92681 and -1 at 92682, and c is 0 at a right angle; at 65536 only c = h h has a mitre. */
    private static void promise6MitreLimit() {
        int[] limits = {65536, 92681, 92682, 6553600};
        int[] sorts = {1, 1, 2, 2};
        for (int i = 0; i < limits.length; i++) {
            StrokePieces x = Given.pen(4194304, 0, 0, limits[i]);
            Given.row(x, 0, 0, 100, 0, 100, 100);
            x.stroke();
            Check.due("6: right angle at " + limits[i], x.sort(1), sorts[i]);
        }
        StrokePieces x = Given.pen(1, 0, 0, 65536);
        Given.row(x, 0, 0, 100, 0, 200, 1);
        x.stroke();
        Check.piece("6: least limit", x, 1, 2, 100, 0, 100, -1, 100, -1, 100, -1);
    }

    private static void promise7Length() {
        StrokePieces x = new StrokePieces();
        for (int k = 0; k < 8; k++) {
            Check.due("7: most", x.length(k, FAR), true);
            Check.due("7: least", x.length(k, 0), true);
        }
        int[][] bad = {{-1, 1}, {8, 1}, {MAX, 1}, {MIN, 1}, {0, -1}, {0, FAR + 1}, {7, MAX}, {7, MIN}};
        for (int[] p : bad) {
            Check.due("7: bad", x.length(p[0], p[1]), false);
        }
        Check.due("7: bad ones change nothing", x.dashes(8, 0), false);
        x.pen(1, 0, 0, 655360);
        Given.row(x, 0, 0, 20, 0);
        x.length(0, 5);
        x.length(1, 5);
        Check.due("7: not used yet", x.stroke(), 1);
        x.dashes(2, 0);
        Check.due("7: used", x.stroke(), 2);
        x.length(0, 1);
        x.length(1, 1);
        Check.due("7: used by dashes() only", x.stroke(), 2);
        x.dashes(2, 0);
        Check.due("7: used again", x.stroke(), 10);
        for (int k = 0; k < 8; k++) {
            x.length(k, k + 1);
        }
        x.clear();
        Given.row(x, 0, 0, 36, 0);
        x.dashes(8, 0);
        Check.due("7: eight lengths", x.stroke(), 4);
        Check.due("7: all walked", x.walked(), 8);
        Check.piece("7", x, 3, 0, 21, 1, 28, 1, 28, -1, 21, -1);
    }

    private static void promise8Dashes() {
        StrokePieces x = new StrokePieces();
        x.length(3, 7);
        int[][] bad = {{-1, 0}, {9, 0}, {MAX, 0}, {MIN, 0}, {0, -1}, {0, FAR + 1}, {4, -1}, {4, FAR + 1}, {4, MIN},
            {4, MAX}, {1, 0}, {2, 0}, {3, 0}};
        for (int[] p : bad) {
            Check.due("8: bad " + p[0] + ", " + p[1], x.dashes(p[0], p[1]), false);
        }
        int[][] good = {{4, 0}, {8, 0}, {4, FAR}, {0, 0}, {0, FAR}};
        for (int[] p : good) {
            Check.due("8: good " + p[0] + ", " + p[1], x.dashes(p[0], p[1]), true);
        }
    }

    private static void promise8KeepsOldDashes() {
        StrokePieces x = Given.pen(1, 0, 0, 655360);
        Given.row(x, 0, 0, 20, 0);
        Given.dashes(x, 0, 5, 5);
        x.length(0, 0);
        x.dashes(1, 0);
        x.dashes(9, 3);
        x.dashes(2, -1);
        x.dashes(0, -1);
        Check.due("8: refused ones change nothing", x.stroke(), 2);
        Check.piece("8", x, 1, 0, 10, 1, 15, 1, 15, -1, 10, -1);
        Check.due("8: none", x.dashes(0, 3), true);
        Check.due("8: a whole line", x.stroke(), 1);
        Check.due("8: not walked", x.walked(), 0);
        Given.dashes(x, 0, 3);
        Check.due("8: one length is dash and gap in turn", x.stroke(), 4);
        Check.due("8: seven of them", x.walked(), 7);
        Check.piece("8", x, 3, 0, 18, 1, 20, 1, 20, -1, 18, -1);
    }

    private static void promise8Offset() {
        StrokePieces x = Given.pen(1, 0, 0, 655360);
        Given.row(x, 0, 0, 20, 0);
        Given.dashes(x, 4, 5, 3);
        Check.due("8: one unit is left of the first", x.stroke(), 3);
        Check.piece("8", x, 0, 0, 0, 1, 1, 1, 1, -1, 0, -1);
        Check.piece("8", x, 1, 0, 4, 1, 9, 1, 9, -1, 4, -1);
        Check.piece("8", x, 2, 0, 12, 1, 17, 1, 17, -1, 12, -1);
        x.dashes(2, 5);
        Check.due("8: a dash as long as the offset is passed", x.stroke(), 3);
        Check.due("8: and not counted", x.walked(), 6);
        Check.piece("8", x, 0, 0, 3, 1, 8, 1, 8, -1, 3, -1);
        Check.piece("8", x, 2, 0, 19, 1, 20, 1, 20, -1, 19, -1);
        Given.dashes(x, 7, 5, 0, 4);
        Check.due("8: two of the third are left", x.stroke(), 3);
        Check.piece("8", x, 0, 0, 0, 1, 2, 1, 2, -1, 0, -1);
        Check.piece("8: a gap is there, then none", x, 1, 0, 11, 1, 16, 1, 16, -1, 11, -1);
        Check.piece("8", x, 2, 0, 16, 1, 20, 1, 20, -1, 16, -1);
        Given.dashes(x, 0, 0, 6, 2);
        Check.due("8: a dash of no length is passed with no offset, too", x.stroke(), 2);
        Check.due("8: from the gap on", x.walked(), 7);
    }

    private static void promise8GreatOffset() {
        StrokePieces x = Given.pen(1, 0, 0, 655360);
        Given.row(x, 0, 0, 3, 0);
        Given.dashes(x, FAR, 1);
        Check.due("8: an even number is passed", x.stroke(), 2);
        x.dashes(1, FAR - 1);
        Check.due("8: an odd number is passed", x.stroke(), 1);
        Check.piece("8", x, 0, 0, 1, 1, 2, 1, 2, -1, 1, -1);
        Given.dashes(x, FAR, 0, 0, 0, 0, 0, 0, 1, 0);
        Check.due("8: seven in eight have no length", x.stroke(), 3);
        Given.dashes(x, FAR, FAR, FAR, FAR, FAR, FAR, FAR, FAR, FAR);
        Check.due("8: a gap", x.stroke(), 0);
        Check.due("8: one gap", x.walked(), 1);
        x.dashes(8, FAR - 1);
        Check.due("8: a unit", x.stroke(), 1);
        Check.due("8: a dash and a gap", x.walked(), 2);
        Check.piece("8", x, 0, 0, 0, 1, 1, 1, 1, -1, 0, -1);
    }

    private static void promise9Corner() {
        StrokePieces x = Given.pen(4, 1, 0, 655360);
        Given.row(x, 0, 0, 100, 0, 100, -100);
        Check.due("9: cap, side, join, side, cap", x.stroke(), 5);
        Check.piece("9", x, 0, 3, 0, -4, -4, -4, -4, 4, 0, 4);
        Check.piece("9", x, 1, 0, 0, 4, 100, 4, 100, -4, 0, -4);
        Check.piece("9", x, 2, 2, 100, 0, 100, 4, 104, 4, 104, 0);
        Check.piece("9", x, 3, 0, 104, 0, 104, -100, 96, -100, 96, 0);
        Check.piece("9", x, 4, 3, 104, -100, 104, -104, 96, -104, 96, -100);
        x.pen(4, 0, 1, 655360);
        Check.due("9: without caps", x.stroke(), 3);
        Check.piece("9", x, 1, 1, 100, 0, 100, 4, 104, 0);
    }

    private static void promise9MitrePeak() {
        StrokePieces x = Given.pen(10, 0, 0, 655360);
        Given.row(x, 0, 0, 100, 0, 160, 80);
        Check.due("9: pieces", x.stroke(), 3);
        Check.piece("9", x, 1, 2, 100, 0, 100, -10, 105, -10, 108, -6);
        x.clear();
        Given.row(x, -7, 3, 9, 3, 2, 3);
        Check.due("9: there and back has no join", x.stroke(), 2);
        x.clear();
        Given.row(x, -7, 3, 9, 3, 20, 3);
        Check.due("9: straight on has no join", x.stroke(), 2);
    }

    /** Lengths are roots rounded down, and halves go up: this way and back are not alike. */
    private static void promise9Halves() {
        StrokePieces x = Given.pen(1, 1, 0, 655360);
        Given.row(x, 0, 0, 2, 1);
        x.stroke();
        Check.piece("9", x, 0, 3, 0, -1, -1, -2, -1, 0, 0, 1);
        Check.piece("9", x, 1, 0, 0, 1, 2, 2, 2, 0, 0, -1);
        Check.piece("9", x, 2, 3, 2, 2, 3, 3, 3, 1, 2, 0);
        x.clear();
        Given.row(x, 2, 1, 0, 0);
        x.stroke();
        Check.piece("9", x, 0, 3, 1, 2, 2, 2, 4, 0, 3, 0);
        Check.piece("9", x, 1, 0, 3, 0, 1, -1, -1, 1, 1, 2);
        Check.piece("9", x, 2, 3, 1, -1, 0, -1, -2, 1, -1, 1);
        x.clear();
        x.pen(4194304, 0, 0, 655360);
        Given.row(x, -500000000, -500000000, 500000000, 500000000);
        x.stroke();
        Check.piece("9: the longest", x, 0, 0, -502965821, -497034179, 497034179, 502965821,
                502965821, 497034179, -497034179, -502965821);
    }

    private static void promise9PassedOver() {
        StrokePieces x = Given.pen(4, 1, 0, 655360);
        Given.row(x, 5, 5, 5, 5, 5, 5);
        Check.due("9: a run of one point", x.stroke(), 0);
        x.close();
        Check.due("9: closed, too", x.stroke(), 0);
        x.clear();
        Given.row(x, 0, 0, 0, 0, 100, 0, 100, 0, 100, 0, 100, 100, 100, 100);
        Check.due("9: the same points are passed over", x.stroke(), 5);
        x.clear();
        Given.row(x, 0, 0, 100, 0, 100, 100, 0, 100, 0, 0, 0, 0);
        Check.due("9: an open row comes back", x.stroke(), 9);
        x.close();
        Check.due("9: a closed row loses its last ones", x.stroke(), 8);
        Check.piece("9", x, 7, 2, 0, 0, -4, 0, -4, -4, 0, -4);
        x.clear();
        Given.row(x, 0, 0, 10, 0);
        x.close();
        Check.due("9: a closed row of two points", x.stroke(), 2);
    }

    private static void promise9Cuts() {
        StrokePieces x = Given.pen(1, 0, 0, 655360);
        Given.dashes(x, 0, 1, 1);
        Given.row(x, 0, 0, -1, -2);
        Check.due("9: half a unit left goes up", x.stroke(), 1);
        Check.due("9: of two", x.walked(), 2);
        Check.piece("9", x, 0, 0, 1, 0, 1, -1, -1, -1, -1, 0);
        x.clear();
        Given.row(x, 0, 0, -3, -4);
        x.pen(10, 0, 0, 655360);
        Check.due("9: three dashes", x.stroke(), 3);
        // (-0.6, -0.8) is cut at (-1, -1), (-1.2, -1.6) at (-1, -2), (-1.8, -2.4) at (-2, -2).
        Check.piece("9", x, 0, 0, 10, -10, 9, -11, -11, 9, -10, 10);
        Check.piece("9", x, 1, 0, -1, -12, -2, -12, -2, 8, -1, 8);
        x.clear();
        Given.row(x, -FAR, -FAR, FAR, FAR);
        x.pen(4194304, 0, 0, 655360);
        Given.dashes(x, FAR, FAR, FAR);
        Check.due("9: the longest way", x.stroke(), 1);
        Check.due("9: a gap, a dash, a gap", x.walked(), 3);
        Check.piece("9", x, 0, 0, -160211670, -154280028, 219413392, 225345034,
                225345034, 219413392, -154280028, -160211670);
    }

    private static void promise9DashRoundCorner() {
        StrokePieces x = Given.pen(1, 1, 0, 655360);
        Given.row(x, 0, 0, 10, 0, 10, 10);
        Given.dashes(x, 0, 15, 3);
        Check.due("9: round a corner", x.stroke(), 8);
        Check.due("9: three walked", x.walked(), 3);
        Check.piece("9", x, 0, 3, 0, -1, -1, -1, -1, 1, 0, 1);
        Check.piece("9", x, 1, 0, 0, 1, 10, 1, 10, -1, 0, -1);
        Check.piece("9", x, 2, 2, 10, 0, 10, -1, 11, -1, 11, 0);
        Check.piece("9", x, 3, 0, 9, 0, 9, 5, 11, 5, 11, 0);
        Check.piece("9", x, 4, 3, 9, 5, 9, 6, 11, 6, 11, 5);
        Check.piece("9: the last one ends with what is walked", x, 6, 0, 9, 8, 9, 10, 11, 10, 11, 8);
        Given.dashes(x, 0, 10, 5);
        Check.due("9: an end at the corner makes no join", x.stroke(), 6);
        Check.due("9: the gap begins there", x.walked(), 3);
        Check.piece("9", x, 4, 0, 9, 5, 9, 10, 11, 10, 11, 5);
        Given.dashes(x, 0, 20);
        Check.due("9: the whole way", x.stroke(), 5);
        Check.due("9: is one dash", x.walked(), 1);
    }

    private static void promise9DashedRing() {
        StrokePieces x = Given.pen(1, 1, 0, 655360);
        Given.row(x, 0, 0, 10, 0, 10, 10, 0, 10, 0, 0);
        x.close();
        Given.dashes(x, 0, 40);
        Check.due("9: a dash round a ring is open", x.stroke(), 9);
        Check.due("9: one dash", x.walked(), 1);
        Check.piece("9", x, 7, 0, 1, 10, 1, 0, -1, 0, -1, 10);
        Check.piece("9", x, 8, 3, 1, 0, 1, -1, -1, -1, -1, 0);
        Given.dashes(x, 5, 10, 10);
        Check.due("9: begins and ends at the first point", x.stroke(), 11);
        Check.due("9: five walked", x.walked(), 5);
        x.move(100, 100);
        x.line(105, 100);
        x.move(200, 100);
        x.line(205, 100);
        Check.due("9: each run begins behind the offset", x.stroke(), 17);
        Check.due("9: and with one more", x.walked(), 7);
    }

    private static void promise9RangeEdge() {
        int[][] ends = {{1, 0}, {0, 1}, {-1, 0}, {0, -1}};
        for (int[] e : ends) {
            StrokePieces x = Given.pen(4, 1, 0, 655360);
            Given.row(x, e[0] * 100, e[1] * 100, e[0] * (FAR - 4), e[1] * (FAR - 4));
            Check.due("9: a corner at the edge", x.stroke(), 3);
            x.clear();
            Given.row(x, e[0] * 100, e[1] * 100, e[0] * (FAR - 3), e[1] * (FAR - 3));
            Check.due("9: a corner beyond", x.stroke(), StrokePieces.RANGE);
            Check.due("9: none are left", x.pieces(), 0);
            Check.due("9: none to see", x.sort(0), StrokePieces.BAD);
            x.pen(4, 0, 0, 655360);
            Check.due("9: without caps", x.stroke(), 1);
        }
    }

    private static void promise9RangeOfEachKind() {
        StrokePieces x = Given.pen(4, 0, 0, 655360);
        Given.row(x, 0, FAR - 3, 100, FAR - 3);
        Check.due("9: a side beyond", x.stroke(), StrokePieces.RANGE);
        x.clear();
        Given.row(x, FAR, 0, FAR, 0);
        Check.due("9: a point has no corners", x.stroke(), 0);
        x.clear();
        x.pen(10000, 0, 0, 6553600);
        Given.row(x, FAR - 200000, 0, FAR - 100000, 0, FAR - 200000, 3000);
        Check.due("9: a mitre beyond", x.stroke(), StrokePieces.RANGE);
        x.pen(10000, 0, 1, 6553600);
        Check.due("9: a bevel instead", x.stroke(), 3);
        x.clear();
        x.pen(100, 1, 0, 6553600);
        Given.row(x, -FAR + 2000, 0, -FAR + 101, 0, -FAR + 101, 1900);
        Check.due("9: a mitre inside", x.stroke(), 5);
        x.clear();
        Given.row(x, 0, 0, 0, -FAR + 100, 500, -FAR + 100);
        Check.due("9: at the edge", x.stroke(), 5);
        x.clear();
        Given.row(x, 0, 0, 0, -FAR + 99, 500, -FAR + 99);
        Check.due("9: beyond it", x.stroke(), StrokePieces.RANGE);
    }

    private static void promise9MostPieces() {
        StrokePieces x = Given.pen(1, 0, 0, 655360);
        Given.dashes(x, 0, 1, 1);
        Given.row(x, 0, 0, 4000, 0);
        Check.due("9: 2000 pieces", x.stroke(), 2000);
        Check.due("9: 4000 walked", x.walked(), 4000);
        Check.piece("9", x, 1999, 0, 3998, 1, 3999, 1, 3999, -1, 3998, -1);
        Check.due("9: and no more", x.sort(2000), StrokePieces.BAD);
        x.line(4001, 0);
        Check.due("9: 2001 pieces", x.stroke(), StrokePieces.FULL);
        Check.due("9: none are left", x.pieces(), 0);
        Check.due("9: no sort", x.sort(0), StrokePieces.BAD);
        Check.due("9: no corner", x.corner(1, 0, 0), 0);
        Check.due("9: none walked", x.walked(), 0);
        x.clear();
        Given.row(x, 0, 0, 3999, 0);
        Given.row(x, 0, 0, 0, 0);
        Check.due("9: a run of one point does not matter", x.stroke(), 2000);
        x.line(0, 1);
        Check.due("9: a row more does", x.stroke(), StrokePieces.FULL);
        x.pen(1, 1, 0, 655360);
        x.clear();
        Given.row(x, 0, 0, 1332, 0);
        Check.due("9: with caps", x.stroke(), 1998);
        x.line(1333, 0);
        Check.due("9: a side and a cap fit, the other one does not", x.stroke(), StrokePieces.FULL);
    }

    private static void promise9MostDashes() {
        StrokePieces x = Given.pen(1, 1, 0, 655360);
        Given.dashes(x, 0, 1, 0, 0, 1);
        // The first dash of no length is a gap, the second one a dash: a whole turn is walked in 2 units.
        Given.row(x, 0, 0, 8, 0);
        Check.due("9: four dashes with caps", x.stroke(), 12);
        Check.due("9: sixteen walked", x.walked(), 16);
        Given.dashes(x, 1, 0, 1);
        x.clear();
        Given.row(x, 0, 0, 5000, 0);
        Given.row(x, 0, 0, 5000, 0);
        Check.due("9: 20000 dashes", x.stroke(), 0);
        Check.due("9: 20000 walked but for those of the offset", x.walked(), 2 * 9999);
        x.line(5001, 0);
        Check.due("9: two more", x.stroke(), 0);
        Check.due("9: are 20000", x.walked(), 20000);
        x.line(5001, 1);
        Check.due("9: and two more", x.stroke(), StrokePieces.FULL);
        Check.due("9: none walked", x.walked(), 0);
        x.clear();
        Given.row(x, 0, 0, 5000, 0);
        Given.row(x, 0, 0, 5001, 0);
        Given.row(x, 0, 0, 1, 0);
        Check.due("9: where a run begins is one of them", x.stroke(), StrokePieces.FULL);
        x.clear();
        Given.row(x, 0, 0, 5000, 0);
        Given.row(x, 0, 0, 5001, 0);
        Check.due("9: 20000 again", x.stroke(), 0);
        x.move(0, 0);
        Check.due("9: a run of one point takes none", x.stroke(), 0);
        Check.due("9: so that it is still 20000", x.walked(), 20000);
        x.line(1, 0);
        Check.due("9: a run of one segment takes one", x.stroke(), StrokePieces.FULL);
        x.dashes(0, 0);
        Check.due("9: without dashes", x.stroke(), 9);
    }

    /** Seven lengths of 1 unit in all, so that L units take 7 L - 6, from a dash on (offset 0) or from a gap on (1). */
    private static void promise9RunsOfOnePointTakeNoDash() {
        StrokePieces x = Given.pen(1, 0, 0, 655360);
        for (int offset = 0; offset <= 1; offset++) {
            Given.dashes(x, offset, 1, 0, 0, 0, 0, 0, 0);
            x.clear();
            x.move(3, 3);
            Given.row(x, 3, 3, 3, 3);
            x.close();
            Given.row(x, 0, 0, 2858, 0);
            x.move(-7, 2);
            Given.row(x, 9, 9, 9, 9, 9, 9);
            x.close();
            Check.due("9: runs of one point before and behind", x.stroke(), 1429);
            Check.due("9: leave the 20000 to the other one", x.walked(), 20000);
            Given.row(x, 9, 9, 9, 10);
            Check.due("9: a run of 1 unit takes one more", x.stroke(), StrokePieces.FULL);
            Check.due("9: and none are walked then", x.walked(), 0);
        }
    }

    private static void promise9ManyRunsOfOnePoint() {
        StrokePieces x = new StrokePieces();
        Given.dashes(x, 0, 0, 1);
        for (int i = 0; i < 200; i++) {
            x.move(i, i);
        }
        Given.row(x, 0, 0, 10000, 0);
        for (int i = 0; i < 200; i++) {
            x.move(i, i);
        }
        Check.due("9: many points, of which one row is walked", x.stroke(), 0);
        Check.due("9: 10000 gaps and the dashes between them", x.walked(), 19999);
        Given.row(x, 0, 0, 1, 0);
        Check.due("9: one gap more", x.stroke(), 0);
        Check.due("9: is the last one", x.walked(), 20000);
        Given.row(x, 0, 0, 0, 1);
        Check.due("9: there is room for", x.stroke(), StrokePieces.FULL);
    }

    private static void promise9WhicheverComesFirst() {
        StrokePieces x = Given.pen(4, 0, 0, 655360);
        Given.dashes(x, 0, 1, 1);
        Given.row(x, FAR, 0, FAR, 1);
        Given.row(x, 0, 0, 4001, 0);
        Check.due("9: range, then full", x.stroke(), StrokePieces.RANGE);
        x.clear();
        Given.row(x, 0, 0, 4001, 0);
        Given.row(x, FAR, 0, FAR, 1);
        Check.due("9: full, then range", x.stroke(), StrokePieces.FULL);
        x.clear();
        Given.row(x, FAR - 4005, 0, FAR, 0, FAR, 5);
        Check.due("9: full of pieces on the way to the edge", x.stroke(), StrokePieces.FULL);
        x.clear();
        Given.row(x, FAR - 3900, 0, FAR, 0, FAR, 500);
        Check.due("9: beyond the edge before it is full", x.stroke(), StrokePieces.RANGE);
    }

    /** The 20000th dash has the first piece that is beyond: that is seen before a further one is taken. */
    private static void promise9PiecesBeforeNextDash() {
        StrokePieces x = Given.pen(3, 0, 0, 655360);
        Given.dashes(x, 1, 1, 1, 0, 1, 0, 1, 0, 1);
        Given.row(x, 0, 0, 8839, 8839);
        Check.due("9: 20000 dashes, of which some have no length when cut", x.stroke() > 1000, true);
        Check.due("9: all of them", x.walked(), 20000);
        x.clear();
        Given.row(x, 0, 0, 8841, 8841);
        Check.due("9: one more", x.stroke(), StrokePieces.FULL);
        x.clear();
        Given.row(x, FAR - 8841, FAR - 8841, FAR, FAR);
        Check.due("9: beyond", x.stroke(), StrokePieces.RANGE);
    }

    private static void promise10Pieces() {
        StrokePieces x = Given.pen(4, 1, 0, 655360);
        Given.row(x, 0, 0, 100, 0);
        Check.due("10: not stroked yet", x.pieces(), 0);
        x.stroke();
        Check.due("10: a side and two caps", x.pieces(), 3);
        x.line(100, 100);
        x.move(500, 0);
        x.close();
        Check.due("10: till the next stroke", x.pieces(), 3);
        x.stroke();
        Check.due("10: two sides, a join and two caps", x.pieces(), 5);
        x.stroke();
        Check.due("10: each stroke anew", x.pieces(), 5);
        Given.row(x, FAR, 0, FAR, 9);
        x.stroke();
        Check.due("10: none", x.pieces(), 0);
    }

    private static void promise11Sort() {
        StrokePieces x = Given.pen(4, 1, 0, 92682);
        Given.row(x, 0, 0, 100, 0, 100, 100, 0, 50);
        x.stroke();
        int[] want = {3, 0, 2, 0, 1, 0, 3};
        Check.due("11: pieces", x.pieces(), want.length);
        for (int i = 0; i < want.length; i++) {
            Check.due("11: sort " + i, x.sort(i), want[i]);
        }
        for (int i : new int[] {-1, 7, 8, 1999, 2000, 2001, MAX, MIN}) {
            Check.due("11: none such", x.sort(i), StrokePieces.BAD);
        }
    }

    private static void promise12Corner() {
        StrokePieces x = Given.pen(4, 0, 1, 655360);
        Given.row(x, 1000, 2000, 1100, 2000, 1100, 2100);
        x.stroke();
        Check.piece("12", x, 0, 0, 1000, 2004, 1100, 2004, 1100, 1996, 1000, 1996);
        Check.piece("12: three corners", x, 1, 1, 1100, 2000, 1100, 1996, 1104, 2000);
        Check.piece("12", x, 2, 0, 1096, 2000, 1096, 2100, 1104, 2100, 1104, 2000);
        int[][] none = {{-1, 0, 0}, {3, 0, 0}, {2000, 0, 0}, {MAX, 0, 0}, {MIN, 0, 0}, {0, -1, 0}, {0, 4, 0},
            {0, MAX, 0}, {0, MIN, 1}, {1, 3, 0}, {1, 3, 1}, {0, 0, -1}, {0, 0, 2}, {0, 0, MAX}, {0, 0, MIN},
            {1, -1, 0}, {1, -1, 1}, {0, 4, -1}, {2, -1, 0}, {2, -1, 1}, {2, 0, -1}, {2, 1, -1}, {0, 3, 2},
            {268435456, 0, 0}, {536870912, 0, 0}};
        for (int[] n : none) {
            Check.due("12: none such", x.corner(n[0], n[1], n[2]), 0);
        }
    }

    private static void promise13Walked() {
        StrokePieces x = Given.pen(4, 0, 0, 655360);
        Given.row(x, 0, 0, 100, 0);
        Given.dashes(x, 0, 10, 10);
        Check.due("13: before", x.walked(), 0);
        x.stroke();
        Check.due("13: ten", x.walked(), 10);
        x.line(200, 0);
        x.dashes(0, 0);
        Check.due("13: of the latest stroke", x.walked(), 10);
        x.stroke();
        Check.due("13: no dashes", x.walked(), 0);
        x.dashes(2, 0);
        x.stroke();
        Check.due("13: twenty", x.walked(), 20);
        x.stroke();
        Check.due("13: each stroke anew", x.walked(), 20);
        Check.due("13: points", x.clear(), 3);
        Check.due("13: the latest stroke is still that", x.walked(), 20);
        Given.row(x, 0, 0, 100, 0);
        Given.row(x, FAR, 0, FAR, 5);
        Check.due("13: beyond", x.stroke(), StrokePieces.RANGE);
        Check.due("13: none", x.walked(), 0);
        x.clear();
        x.move(5, 5);
        Check.due("13: a run of one point", x.stroke(), 0);
        Check.due("13: has no length to walk", x.walked(), 0);
    }

    /** Points that fall together are a run of one point, too, whether it would begin in a dash or in a gap. */
    private static void promise13RunsOfOnePoint() {
        StrokePieces x = Given.pen(4, 1, 0, 655360);
        for (int offset = 0; offset <= 10; offset += 10) {
            Given.dashes(x, offset, 10, 10);
            x.clear();
            Given.row(x, 5, 5, 5, 5, 5, 5);
            Check.due("13: the same point again and again", x.stroke(), 0);
            Check.due("13: is not walked", x.walked(), 0);
            x.close();
            Check.due("13: closed", x.stroke(), 0);
            Check.due("13: nor is that", x.walked(), 0);
            Given.row(x, 0, 0, 40, 0);
            x.move(7, 7);
            Check.due("13: a line between two of them", x.stroke(), 6);
            Check.due("13: is all that is walked", x.walked(), 4);
            x.line(7, 8);
            x.stroke();
            Check.due("13: one unit is a length", x.walked(), 5);
        }
        Given.dashes(x, 0, 0, 10);
        x.clear();
        x.move(5, 5);
        Check.due("13: dashes of no length", x.stroke(), 0);
        Check.due("13: end where there is a length", x.walked(), 0);
    }
}
