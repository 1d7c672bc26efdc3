/**
 * Each sentence of the document's Terms that names a boundary, in the document's order: the sentence stands above
 * its test. The answers are worked out by hand or with fractions, apart from the class.
 */
final class TermsEdgesTest {
    private static final int FAR = 536870912;
    private static final int MAX = Integer.MAX_VALUE;
    private static final int MIN = Integer.MIN_VALUE;

    private TermsEdgesTest() {
    }

    public static void main(String[] args) {
        calls512();
        places();
        greatestNotAbove();
        pointsOfAllRows();
        sameAsTheOneBefore();
        sameAsTheFirstOne();
        runOfOnePoint();
        halfWidth();
        capAndJoin();
        limitLeastAndMost();
        limitAtFirst();
        shortLengths();
        longLengths();
        acrossAndAlong();
        joinNone();
        joinSides();
        joinSidesOfTheLeastTurn();
        mitreIf();
        mitreBoundIsRoundedDown();
        mitrePeakIsRounded();
        openRuns();
        closedRuns();
        dashLengths();
        eachSecondIsAGap();
        offsetWithinATurn();
        offsetOfSeveralTurns();
        offsetAndDashesOfNoLength();
        dashesEndBeforeTheSegmentDoes();
        cuts();
        dashesOfNoLength();
        openRunsInDashes();
        eachRunAnew();
        closedRunsAreWalkedBack();
        piecesBeforeTheNextDash();
        lastDash();
        mostDashes();
        mostDashesCountRuns();
        mostPieces();
        mostPiecesOfEachSort();
        cornersTooFarAway();
        Check.end();
    }

    /** "An object is used for at most 512 calls after it has been made; what later calls answer is free." */
    private static void calls512() {
        StrokePieces x = new StrokePieces();
        Check.due("call 1", x.move(0, 0), 1);
        for (int call = 2; call <= 511; call++) {
            Check.due("call " + call, x.line(1000 * call, 0), call);
        }
        Check.due("call 512 strokes 511 points", x.stroke(), 510);
        StrokePieces y = Given.pen(1, 0, 0, 655360);
        Given.dashes(y, 0, 1, 0, 0, 0, 0, 0, 0);
        y.move(0, 0);
        y.line(2858, 0);
        for (int call = 12; call <= 512; call++) {
            Check.due("call " + call + ", each with 20000 dashes", y.stroke(), 1429);
        }
    }

    /** "PLACES are whole numbers of UNITS, -536870912 to 536870912; a point has two." */
    private static void places() {
        int[] inside = {-FAR, -FAR + 1, 0, FAR - 1, FAR};
        int[] beyond = {-FAR - 1, FAR + 1, MIN, MAX};
        for (int in : inside) {
            for (int in2 : inside) {
                StrokePieces x = new StrokePieces();
                Check.due("move inside", x.move(in, in2), 1);
                Check.due("line inside", x.line(in2, in), 2);
            }
            for (int out : beyond) {
                StrokePieces x = new StrokePieces();
                Check.due("move, x beyond", x.move(out, in), StrokePieces.RANGE);
                Check.due("move, y beyond", x.move(in, out), StrokePieces.RANGE);
                Check.due("no point yet", x.move(0, 0), 1);
                Check.due("line, x beyond", x.line(out, in), StrokePieces.RANGE);
                Check.due("line, y beyond", x.line(in, out), StrokePieces.RANGE);
                Check.due("one point still", x.clear(), 1);
            }
        }
        StrokePieces x = Given.pen(1, 0, 0, 655360);
        Given.row(x, -FAR, 7, FAR, 7);
        Check.due("from edge to edge", x.stroke(), 1);
        Check.piece("from edge to edge", x, 0, 0, -FAR, 8, FAR, 8, FAR, 6, -FAR, 6);
    }

    /** "(v)' is the greatest whole number not above v." */
    private static void greatestNotAbove() {
        // L is 4: n is ((-5/4 + 1/2)', (5 + 1/2)') = (-1, 5), t is ((5 + 1/2)', (5/4 + 1/2)') = (5, 1).
        StrokePieces x = Given.pen(5, 1, 0, 655360);
        Given.row(x, 0, 0, 4, 1);
        Check.due("below and above 0", x.stroke(), 3);
        Check.piece("below 0", x, 0, 3, 1, -5, -4, -6, -6, 4, -1, 5);
        Check.piece("below 0", x, 1, 0, -1, 5, 3, 6, 5, -4, 1, -5);
        Check.piece("below 0", x, 2, 3, 3, 6, 8, 7, 10, -3, 5, -4);
        // The other way n is (1, -5), t is (-5, -1).
        x.clear();
        Given.row(x, 4, 1, 0, 0);
        Check.due("the other way", x.stroke(), 3);
        Check.piece("the other way", x, 0, 3, 3, 6, 8, 7, 10, -3, 5, -4);
        Check.piece("the other way", x, 1, 0, 5, -4, 1, -5, -1, 5, 3, 6);
        Check.piece("the other way", x, 2, 3, 1, -5, -4, -6, -6, 4, -1, 5);
    }

    /** "there are at most 2000 points in all rows": no more than 511 can be seen within 512 calls. */
    private static void pointsOfAllRows() {
        StrokePieces x = new StrokePieces();
        int points = 0;
        for (int i = 0; i < 102; i++) {
            Check.due("a row more", x.move(5, i), ++points);
            Check.due("the same point is one more, too", x.line(5, i), ++points);
            Check.due("a point more", x.line(9, i), ++points);
            Check.due("closed", x.close(), points);
            Check.due("no point more", x.line(0, 0), StrokePieces.NO);
        }
        Check.due("points of all rows", x.clear(), 306);
        Check.due("call 512", x.clear(), 0);
    }

    /** "Points that are the same as the one before are passed over" */
    private static void sameAsTheOneBefore() {
        bevelled("the first ones", false, "010", 0, 0, 0, 0, 0, 0, 100, 0, 100, 100);
        bevelled("those between", false, "010", 0, 0, 100, 0, 100, 0, 100, 0, 100, 100);
        bevelled("the last ones", false, "010", 0, 0, 100, 0, 100, 100, 100, 100, 100, 100);
        bevelled("all of them", false, "", 100, 3, 100, 3, 100, 3);
        bevelled("the same as one further back", false, "000", 0, 0, 100, 0, 0, 0, 100, 0);
        bevelled("the same x alone", false, "0", 7, 0, 7, 1);
        bevelled("the same y alone", false, "0", 0, 7, 1, 7);
        bevelled("x and y changed for one another", false, "0", 1, 7, 7, 1);
        StrokePieces x = Given.pen(4, 0, 1, 655360);
        Given.row(x, 3, 9);
        Given.row(x, 3, 9, 50, 9);
        Check.due("the last one of another row is not the one before", x.stroke(), 1);
        Check.piece("that row", x, 0, 0, 3, 13, 50, 13, 50, 5, 3, 5);
    }

    /** "in a closed row the last ones, too, if they are the same as the first one." */
    private static void sameAsTheFirstOne() {
        bevelled("a triangle", true, "010101", 5, 9, 100, -3, 40, 77);
        bevelled("its first point again", true, "010101", 5, 9, 100, -3, 40, 77, 5, 9);
        bevelled("and again", true, "010101", 5, 9, 100, -3, 40, 77, 5, 9, 5, 9, 5, 9);
        bevelled("the first one twice, too", true, "010101", 5, 9, 5, 9, 100, -3, 40, 77, 5, 9);
        bevelled("but not in an open row", false, "01010", 5, 9, 100, -3, 40, 77, 5, 9, 5, 9);
        bevelled("the same x alone", true, "01010101", 0, 0, 100, 0, 100, 100, 0, 1);
        bevelled("the same y alone", true, "0101010", 0, 0, 100, 0, 100, 100, 1, 0);
        bevelled("one between stays", true, "001001", 0, 0, 100, 0, 0, 0, 0, 100);
        bevelled("there and back", true, "00", 5, 9, 100, 9, 5, 9);
        bevelled("there and back twice", true, "0000", 5, 9, 100, 9, 5, 9, 100, 9, 5, 9);
        bevelled("the first one alone", true, "", 5, 9, 5, 9);
        StrokePieces x = Given.pen(4, 0, 1, 655360);
        Given.ring(x, 5, 9, 105, 9, 5, 9, 5, 9);
        x.stroke();
        Check.piece("there", x, 0, 0, 5, 13, 105, 13, 105, 5, 5, 5);
        Check.piece("and back", x, 1, 0, 105, 5, 5, 5, 5, 13, 105, 13);
    }

    private static void bevelled(String what, boolean closed, String due, int... places) {
        StrokePieces x = Given.pen(4, 0, 1, 655360);
        Given.row(x, places);
        if (closed) {
            x.close();
        }
        Check.due(what, sorts(x), due);
    }

    /** A stroke, as the sorts of its pieces. */
    private static String sorts(StrokePieces x) {
        StringBuilder text = new StringBuilder();
        int count = x.stroke();
        for (int i = 0; i < count; i++) {
            text.append(x.sort(i));
        }
        return text.toString();
    }

    /** "a run of one point has no pieces." */
    private static void runOfOnePoint() {
        for (int dashed = 0; dashed <= 1; dashed++) {
            StrokePieces x = Given.pen(4194304, 1, 0, 655360);
            x.length(0, FAR);
            x.dashes(dashed, 0);
            x.move(FAR, FAR);
            Check.due("open, with caps", x.stroke(), 0);
            x.close();
            Check.due("closed", x.stroke(), 0);
            Given.row(x, -FAR, 3, -FAR, 3, -FAR, 3);
            Check.due("of points that are the same", x.stroke(), 0);
            x.close();
            Check.due("closed, too", x.stroke(), 0);
            x.pen(1, 1, 0, 655360);
            Given.row(x, 0, 0, 9, 0);
            x.move(5, 5);
            Check.due("beside a run of two", x.stroke(), 3);
        }
    }

    /** "THE PEN has a half width h, 1 to 4194304 units, at first 32768" */
    private static void halfWidth() {
        StrokePieces x = new StrokePieces();
        Given.row(x, 0, 0, 100, 0);
        x.stroke();
        Check.piece("at first", x, 0, 0, 0, 32768, 100, 32768, 100, -32768, 0, -32768);
        Check.due("1", x.pen(1, 0, 0, 655360), true);
        x.stroke();
        Check.piece("1", x, 0, 0, 0, 1, 100, 1, 100, -1, 0, -1);
        Check.due("4194304", x.pen(4194304, 0, 0, 655360), true);
        x.stroke();
        Check.piece("4194304", x, 0, 0, 0, 4194304, 100, 4194304, 100, -4194304, 0, -4194304);
        for (int half : new int[] {0, -1, 4194305, MAX, MIN}) {
            Check.due("half width " + half, x.pen(half, 0, 0, 655360), false);
        }
        x.stroke();
        Check.due("still 4194304", x.corner(0, 0, 1), 4194304);
    }

    /** "a CAP, 0 none, 1 square; a JOIN, 0 mitre, 1 bevel" */
    private static void capAndJoin() {
        StrokePieces x = new StrokePieces();
        Given.row(x, 0, 0, 100, 0, 100, 100);
        Check.due("at first no caps", x.stroke(), 3);
        Check.due("and a mitre", x.sort(1), 2);
        for (int cap = -1; cap <= 2; cap++) {
            for (int join = -1; join <= 2; join++) {
                boolean good = cap >= 0 && cap <= 1 && join >= 0 && join <= 1;
                Check.due("cap " + cap + ", join " + join, x.pen(9, cap, join, 655360), good);
                if (good) {
                    Check.due("pieces with cap " + cap, x.stroke(), 3 + 2 * cap);
                    Check.due("sort with join " + join, x.sort(1 + cap), 2 - join);
                }
            }
        }
        Check.due("the last good one stays", x.stroke(), 5);
        Check.due("with a bevel", x.sort(2), 1);
    }

    /** "and a LIMIT M, 65536 to 6553600 (65536ths)": C is 65536 at the one end, -65523 at the other, h h is 65536. */
    private static void limitLeastAndMost() {
        Check.due("65536, c = 65536", joinOf(256, 65536, 0, 1, -8, 32), 2);
        Check.due("65536, c = 65535", joinOf(256, 65536, 8, 9, 19, 35), 1);
        Check.due("6553600, c = -65523", joinOf(256, 6553600, 3, 4, -8, -19), 2);
        Check.due("6553600, c = -65524", joinOf(256, 6553600, -5, -3, 8, 15), 1);
        StrokePieces x = new StrokePieces();
        for (int limit : new int[] {65535, 0, -1, -65536, 6553601, MAX, MIN}) {
            Check.due("limit " + limit, x.pen(256, 0, 0, limit), false);
        }
    }

    /** "at first 655360": C is -64226, and 65536 c / (h h) is -64225.8 and -64226.4 here. */
    private static void limitAtFirst() {
        int[] limits = {655290, 655360, 655540, 655541};
        int[] milder = {1, 2, 2, 2};
        int[] sharper = {1, 1, 1, 2};
        for (int i = 0; i < limits.length; i++) {
            Check.due("milder at " + limits[i], joinOf(32768, limits[i], 3, 4, -39, -32), milder[i]);
            Check.due("sharper at " + limits[i], joinOf(32768, limits[i], 3, 1, -38, -33), sharper[i]);
        }
        StrokePieces x = new StrokePieces();
        Given.row(x, 0, 0, 3, 4, -36, -28);
        Given.row(x, 0, 0, 3, 1, -35, -32);
        Check.due("at first", x.stroke(), 6);
        Check.due("milder at first", x.sort(1), 2);
        Check.due("sharper at first", x.sort(4), 1);
    }

    /** The sort of the join of a segment (dx, dy) and one (dx2, dy2) behind it, of a pen with mitres. */
    private static int joinOf(int half, int limit, int dx, int dy, int dx2, int dy2) {
        StrokePieces x = Given.pen(half, 0, 0, limit);
        Given.row(x, 0, 0, dx, dy, dx + dx2, dy + dy2);
        Check.due("two sides and a join", x.stroke(), 3);
        return x.sort(1);
    }

    /**
     * "its LENGTH is the greatest whole number L with L L <= dx dx + dy dy": gaps of one unit, with dashes of no
     * length between them, are 2 L - 1 in all.
     */
    private static void shortLengths() {
        int[][] ways = {{1, 0, 1}, {0, -1, 1}, {1, 1, 1}, {-1, 1, 1}, {2, 1, 2}, {2, 2, 2}, {0, 3, 3}, {3, 4, 5},
            {-5, 1, 5}, {-4, -8, 8}, {9, 0, 9}, {7, -7, 9}, {6, 8, 10}, {5, -12, 13}, {300, 400, 500},
            {299, 400, 499}, {301, 400, 500}, {9999, 141, 9999}, {9999, 142, 10000}, {0, 10000, 10000}};
        for (int[] w : ways) {
            StrokePieces x = new StrokePieces();
            Given.row(x, 0, 0, w[0], w[1]);
            walks("length of " + w[0] + ", " + w[1], x, 2 * w[2] - 1, 0, 0, 1);
        }
    }

    /** The same, far beyond what a double holds: squares, one less than a square, and the greatest sum, 2^61. */
    private static void longLengths() {
        StrokePieces x = Given.pen(1, 0, 0, 655360);
        Given.row(x, -FAR, 0, FAR, 0);
        walks("2^30 units", x, 2, 1, FAR, FAR);
        walks("one less, and one of the next dash", x, 3, 2, FAR, FAR - 1);
        x.clear();
        // 1073697800 and 46340 are 2 m m and 2 m: the sum of their squares is 1 less than that of 2 m m + 1.
        Given.row(x, -536848900, 0, 536848900, 46340);
        walks("1073697800 units", x, 2, 1, FAR, 536826888);
        walks("one less, and one of the next dash", x, 3, 2, FAR, 536826887);
        x.clear();
        // A dash of no length comes first, so that the ends, whose corners would be beyond, lie in gaps.
        Given.row(x, -402653184, -FAR, 402653184, FAR);
        walks("1342177280 units, 3 and 4 and 5 times 2^28", x, 3, 1, 0, FAR, FAR, 268435456);
        walks("one less, a dash of no length, a gap", x, 5, 1, 0, FAR, FAR, 268435455);
        x.clear();
        Given.row(x, -FAR, -FAR, FAR, FAR);
        walks("1518500249 units", x, 3, 1, 0, FAR, FAR, 444758425);
        walks("one less, a dash of no length, a gap", x, 5, 1, 0, FAR, FAR, 444758424);
    }

    private static void walks(String what, StrokePieces x, int walked, int pieces, int... lengths) {
        Given.dashes(x, 0, lengths);
        Check.due(what + ": pieces", x.stroke(), pieces);
        Check.due(what + ": walked", x.walked(), walked);
    }

    /** "its ACROSS is n = ((-dy h / L + 1/2)', (dx h / L + 1/2)'), its ALONG t = ...": halves go up, each by itself. */
    private static void acrossAndAlong() {
        // L is 4, h is 2: dy h / L is a half. n is (0, 2), t is (2, 1).
        StrokePieces x = Given.pen(2, 1, 0, 655360);
        Given.row(x, 0, 0, 4, 1);
        x.stroke();
        Check.piece("a half", x, 0, 3, 0, -2, -2, -3, -2, 1, 0, 2);
        Check.piece("a half", x, 1, 0, 0, 2, 4, 3, 4, -1, 0, -2);
        Check.piece("a half", x, 2, 3, 4, 3, 6, 4, 6, 0, 4, -1);
        // n is (1, -2), t is (-2, 0).
        x.clear();
        Given.row(x, 4, 1, 0, 0);
        x.stroke();
        Check.piece("less than none", x, 0, 3, 3, 3, 5, 3, 7, -1, 5, -1);
        Check.piece("less than none", x, 1, 0, 5, -1, 1, -2, -1, 2, 3, 3);
        Check.piece("less than none", x, 2, 3, 1, -2, -1, -2, -3, 2, -1, 2);
        // L is 1: as the root is rounded down, n and t are longer than h.
        x.clear();
        Given.row(x, 0, 0, 1, 1);
        x.stroke();
        Check.piece("the shortest slanting way", x, 1, 0, -2, 2, -1, 3, 3, -1, 2, -2);
    }

    /** "The JOIN of a segment and the next one, at the point p between them: none when z = dx dy2 - dy dx2 is 0" */
    private static void joinNone() {
        for (int join = 0; join <= 1; join++) {
            StrokePieces x = Given.pen(4, 0, join, 6553600);
            Given.row(x, 0, 0, 10, 0, 25, 0);
            Check.due("straight on", x.stroke(), 2);
            x.clear();
            Given.row(x, 0, 0, 10, 0, 3, 0);
            Check.due("back", x.stroke(), 2);
            x.clear();
            Given.row(x, 0, 0, 2, 1, 6, 3, 4, 2);
            Check.due("slanting", x.stroke(), 3);
            x.clear();
            Given.row(x, -FAR + 10, -FAR + 10, 0, 0, FAR - 10, FAR - 10);
            Check.due("far", x.stroke(), 2);
            x.clear();
            Given.ring(x, 0, 0, 10, 0, 25, 0);
            Check.due("on, and back to the first point", x.stroke(), 3);
        }
    }

    /** "else with v = -1 when z is above 0, 1 below: bevel: p, p + v n, p + v n2." */
    private static void joinSides() {
        StrokePieces x = Given.pen(3, 0, 1, 655360);
        Given.row(x, 0, 0, 1, 0, 1, 1);
        Check.due("z is 1", x.stroke(), 3);
        Check.piece("z is 1", x, 1, 1, 1, 0, 1, -3, 4, 0);
        x.clear();
        Given.row(x, 0, 0, 1, 0, 1, -1);
        Check.due("z is -1", x.stroke(), 3);
        Check.piece("z is -1", x, 1, 1, 1, 0, 1, 3, 4, 0);
        x.pen(3, 0, 0, 655360);
        x.stroke();
        Check.piece("a mitre, z is -1", x, 1, 2, 1, 0, 1, 3, 4, 3, 4, 0);
        x.clear();
        Given.row(x, 0, 0, 1, 0, 1, 1);
        x.stroke();
        Check.piece("a mitre, z is 1", x, 1, 2, 1, 0, 1, -3, 4, -3, 4, 0);
    }

    /** The same: z is 1 or -1, of products of some 2^58. */
    private static void joinSidesOfTheLeastTurn() {
        int k = 536870900;
        int a = -FAR + 10;
        StrokePieces x = Given.pen(1, 0, 1, 655360);
        Given.row(x, a, a, a + k, a + k - 1, a + 2 * k + 1, a + 2 * k - 1);
        Check.due("z is 1", x.stroke(), 3);
        Check.piece("z is 1", x, 1, 1, a + k, a + k - 1, a + k + 1, a + k - 2, a + k + 1, a + k - 2);
        x.clear();
        Given.row(x, a, a, a + k - 1, a + k, a + 2 * k - 1, a + 2 * k + 1);
        Check.due("z is -1", x.stroke(), 3);
        Check.piece("z is -1", x, 1, 1, a + k - 1, a + k, a + k - 2, a + k + 1, a + k - 2, a + k + 1);
    }

    /** "With a mitre instead of that, if c 65536 >= C h h ...": C is -32768 at 131072, c is -2 and h h is 4. */
    private static void mitreIf() {
        StrokePieces x = Given.pen(2, 0, 0, 131072);
        Given.row(x, 0, 0, 100, 0, 50, 87);
        Check.due("c 65536 = C h h", x.stroke(), 3);
        // n is (0, 2), n2 is (-2, -1), w is 131072, q is (-4, 2).
        Check.piece("c 65536 = C h h", x, 1, 2, 100, 0, 100, -2, 104, -2, 102, 1);
        x.pen(2, 0, 1, 131072);
        x.stroke();
        Check.piece("a pen of bevels", x, 1, 1, 100, 0, 100, -2, 102, 1);
        Check.due("c 65536 = C h h, h = 256", joinOf(256, 131072, 0, 1, -40, -23), 2);
        Check.due("65536 less", joinOf(256, 131072, -20, -11, 39, -25), 1);
    }

    /** "and C = (562949953421312 / (M M))' - 65536": C is 32768.5 - 65536, rounded down, at 131071. */
    private static void mitreBoundIsRoundedDown() {
        Check.due("131071", joinOf(2, 131071, 100, 0, -50, 87), 2);
        Check.due("131070", joinOf(2, 131070, 100, 0, -50, 87), 1);
        Check.due("a right angle at 92682, C = -1", joinOf(2, 92682, 100, 0, 0, 100), 2);
        Check.due("a right angle at 92681, C = 1", joinOf(2, 92681, 100, 0, 0, 100), 1);
    }

    /** "where w = (h h 65536 / (h h + c) + 1/2)' and q = ((n + n2) w / 65536 + 1/2)', for both numbers." */
    private static void mitrePeakIsRounded() {
        // c is h h, so that w is 32768: q is (n + n2) / 2, (-1/2 + 1/2)' and (1/2 + 1/2)' for its x.
        StrokePieces x = Given.pen(2, 0, 0, 655360);
        Given.row(x, 0, 0, 100, 0, 187, 50);
        x.stroke();
        Check.piece("n2 is (-1, 2)", x, 1, 2, 100, 0, 100, -2, 100, -2, 101, -2);
        x.clear();
        Given.row(x, 0, 0, 100, 0, 187, -50);
        x.stroke();
        Check.piece("n2 is (1, 2)", x, 1, 2, 100, 0, 100, 2, 101, 2, 101, 2);
        // w is 46260.7, rounded up, which 4194304 shows; n2 is (-3844779, 1747627), q is (-2713979, 4194331).
        x = Given.pen(4194304, 0, 0, 655360);
        Given.row(x, 0, 0, 37, 0, 42, 11);
        x.stroke();
        Check.piece("w", x, 1, 2, 37, 0, 37, -4194304, 2714016, -4194331, 3844816, -1747627);
        // The sharpest one that any limit lets be a mitre: h h + c is 13, w is 330382100.
        x = Given.pen(256, 0, 0, 6553600);
        Given.row(x, 1000, 1000, 940, 955, 959, 963);
        x.stroke();
        Check.piece("the longest", x, 1, 2, 940, 955, 786, 1160, -261204, -190612, 1042, 712);
        // The widest pen, whose peak lies some 100 half widths away, to the right and to the left.
        x = Given.pen(4194304, 0, 0, 6553600);
        Given.row(x, 0, 0, 1000000, 0, 0, 20000);
        Given.row(x, 0, 0, -1000000, 0, 0, 20000);
        Check.due("the widest", x.stroke(), 6);
        Check.piece("the widest", x, 1, 2, 1000000, 0, 1000000, -4194304, 422283931, -4194304, 1083869, 4193469);
        Check.piece("the widest", x, 4, 2, -1000000, 0, -1000000, -4194304, -422283931, -4194304, -1083869, 4193469);
    }

    /**
     * "A RUN that is not closed: the cap of its beginning, if the pen has caps; then the side of each segment, and
     * behind each one but the last its join with the next one; the cap of its end."
     */
    private static void openRuns() {
        Check.due("one segment", sorts(open(0, 0, 0, 0, 9, 0)), "0");
        Check.due("one segment with caps", sorts(open(1, 0, 0, 0, 9, 0)), "303");
        Check.due("two with caps and a bevel", sorts(open(1, 1, 0, 0, 9, 0, 9, 9)), "30103");
        Check.due("three", sorts(open(0, 0, 0, 0, 9, 0, 9, 9, 0, 9)), "02020");
        Check.due("no join where it comes back", sorts(open(0, 0, 0, 0, 9, 0, 9, 9, 0, 9, 0, 0)), "0202020");
    }

    private static StrokePieces open(int cap, int join, int... places) {
        StrokePieces x = Given.pen(1, cap, join, 655360);
        Given.row(x, places);
        return x;
    }

    /**
     * "One that is closed (of two points or more): sides and joins likewise, with the segment back to the first
     * point, and its join with the first segment."
     */
    private static void closedRuns() {
        StrokePieces x = Given.pen(2, 1, 0, 655360);
        Given.ring(x, 50, 50);
        Check.due("one point", x.stroke(), 0);
        x.clear();
        Given.ring(x, 0, 0, 90, 0);
        Check.due("two points", x.stroke(), 2);
        Check.piece("there", x, 0, 0, 0, 2, 90, 2, 90, -2, 0, -2);
        Check.piece("back", x, 1, 0, 90, -2, 0, -2, 0, 2, 90, 2);
        x.clear();
        Given.ring(x, 0, 0, 30, 0, 30, 40);
        Check.due("three points", x.stroke(), 6);
        // The way back has L = 50 and n = (2, -1); c is -2 with the first one's (0, 2), w is 131072, q is (4, 2).
        Check.piece("back", x, 4, 0, 32, 39, 2, -1, -2, 1, 28, 41);
        Check.piece("its join with the first one", x, 5, 2, 0, 0, -2, 1, -4, -2, 0, -2);
    }

    /** "DASHES are 1 to 8 lengths, each 0 to 536870912 units, not all 0, and an OFFSET, 0 to 536870912; or none." */
    private static void dashLengths() {
        for (int n = 1; n <= 8; n++) {
            StrokePieces x = Given.pen(1, 0, 0, 655360);
            Given.row(x, 0, 0, 10, 0);
            Check.due("all 0", x.dashes(n, 0), false);
            for (int k = 0; k < n; k++) {
                Check.due("the most units", x.length(k, FAR), true);
            }
            Check.due("the greatest sum of " + n, x.dashes(n, 0), true);
            Check.due("one dash", x.stroke(), 1);
            Check.due("the greatest offset, too", x.dashes(n, FAR), true);
            Check.due("one gap", x.stroke(), 0);
            for (int k = 0; k < n - 1; k++) {
                Check.due("the least units", x.length(k, 0), true);
            }
            Check.due("all but one 0", x.dashes(n, 0), true);
            Check.due("a dash or a gap", x.stroke(), n % 2);
            x.length(n - 1, 0);
            Check.due("all 0 again", x.dashes(n, 0), false);
            Check.due("none", x.dashes(0, FAR), true);
            Check.due("a whole line", x.stroke(), 1);
            Check.due("that is not walked", x.walked(), 0);
        }
    }

    /**
     * "They are taken in turn, again and again; each second one of those that are taken is a GAP (not the first one,
     * then the second one, and so on)."
     */
    private static void eachSecondIsAGap() {
        Check.due("one", spans(line(7), 0, 2), "0-2 4-6 of 4");
        Check.due("two", spans(line(9), 0, 1, 2), "0-1 3-4 6-7 of 6");
        Check.due("three", spans(line(13), 0, 1, 2, 3), "0-1 3-6 7-9 12-13 of 7");
        Check.due("seven", spans(line(31), 0, 1, 2, 3, 4, 5, 6, 7), "0-1 3-6 10-15 21-28 29-31 of 9");
        Check.due("eight", spans(line(37), 0, 1, 2, 3, 4, 5, 6, 7, 8), "0-1 3-6 10-15 21-28 36-37 of 9");
    }

    /** A pen without caps and a straight row, to see dashes along it. */
    private static StrokePieces line(int... ends) {
        StrokePieces x = Given.pen(1, 0, 0, 655360);
        x.move(0, 0);
        for (int end : ends) {
            x.line(end, 0);
        }
        return x;
    }

    /** From where to where each side goes, and how many dashes and gaps were walked. */
    private static String spans(StrokePieces x, int offset, int... lengths) {
        Given.dashes(x, offset, lengths);
        StringBuilder text = new StringBuilder();
        int count = x.stroke();
        for (int i = 0; i < count; i++) {
            text.append(x.corner(i, 0, 0)).append('-').append(x.corner(i, 1, 0)).append(' ');
        }
        return text.append("of ").append(x.walked()).toString();
    }

    /**
     * "The offset is walked first: as long as the dash that is there is not longer than what is left of it, that is
     * less by it, and the next dash is there; then the dash that is there is shorter by what is left."
     */
    private static void offsetWithinATurn() {
        Check.due("none", spans(line(20), 0, 5, 3), "0-5 8-13 16-20 of 5");
        Check.due("one less than the first", spans(line(20), 4, 5, 3), "0-1 4-9 12-17 of 6");
        Check.due("as long as the first", spans(line(20), 5, 5, 3), "3-8 11-16 19-20 of 6");
        Check.due("one less than both", spans(line(20), 7, 5, 3), "1-6 9-14 17-20 of 6");
        Check.due("into the seventh", spans(line(12), 27, 1, 2, 3, 4, 5, 6, 7, 8), "0-1 9-10 of 4");
        Check.due("to the eighth", spans(line(12), 28, 1, 2, 3, 4, 5, 6, 7, 8), "8-9 11-12 of 4");
        Check.due("into the eighth", spans(line(12), 35, 1, 2, 3, 4, 5, 6, 7, 8), "1-2 4-7 11-12 of 6");
    }

    /** The same, round and round: behind an odd number of dashes that are passed a gap is there. */
    private static void offsetOfSeveralTurns() {
        for (int turns : new int[] {1, 2, 3, 10000000}) {
            int more = 8 * turns;
            Check.due("a whole turn", spans(line(20), more, 5, 3), "0-5 8-13 16-20 of 5");
            Check.due("and 4", spans(line(20), more + 4, 5, 3), "0-1 4-9 12-17 of 6");
            Check.due("and 5", spans(line(20), more + 5, 5, 3), "3-8 11-16 19-20 of 6");
            Check.due("and 7", spans(line(20), more + 7, 5, 3), "1-6 9-14 17-20 of 6");
        }
        Check.due("one length, once", spans(line(12), 5, 5), "5-10 of 3");
        Check.due("once and 2", spans(line(12), 7, 5), "3-8 of 3");
        Check.due("twice", spans(line(12), 10, 5), "0-5 10-12 of 3");
        Check.due("twice and 4", spans(line(12), 14, 5), "0-1 6-11 of 4");
        for (int more = 0; more <= 24; more += 12) {
            Check.due("three lengths, once", spans(line(8), more + 6, 1, 2, 3), "1-3 6-7 of 5");
            Check.due("once and 1", spans(line(8), more + 7, 1, 2, 3), "0-2 5-6 of 4");
            Check.due("once and 3", spans(line(8), more + 9, 1, 2, 3), "3-4 6-8 of 4");
            Check.due("once and 5", spans(line(8), more + 11, 1, 2, 3), "1-2 4-7 of 5");
            Check.due("twice", spans(line(8), more + 12, 1, 2, 3), "0-1 3-6 7-8 of 5");
        }
        Check.due("the greatest, of an even number", spans(line(3), FAR, 1), "0-1 2-3 of 3");
        Check.due("an odd number", spans(line(3), FAR - 1, 1), "1-2 of 3");
        Check.due("178956970 and 2", spans(line(6), FAR, 3), "0-1 4-6 of 3");
        Check.due("178956970", spans(line(6), FAR - 2, 3), "0-3 of 2");
        Check.due("178956969 and 2", spans(line(6), FAR - 3, 3), "1-4 of 3");
    }

    /** The same: a dash of no length is not longer than nothing, so that it is passed even with no offset. */
    private static void offsetAndDashesOfNoLength() {
        Check.due("a gap is there", spans(line(7), 0, 0, 3), "of 5");
        Check.due("the third is there", spans(line(7), 0, 0, 0, 3), "0-3 6-7 of 7");
        Check.due("all of them but the eighth", spans(line(7), 0, 0, 0, 0, 0, 0, 0, 0, 7), "of 1");
        Check.due("the third behind the first", spans(line(8), 3, 3, 0, 2), "0-2 7-8 of 5");
        Check.due("the first again, as a gap", spans(line(8), 5, 3, 0, 2), "5-8 of 4");
        Check.due("the first again, as a dash", spans(line(5), 2, 2, 0), "0-2 2-4 4-5 of 5");
        Check.due("not before the first is passed", spans(line(5), 1, 2, 0), "0-1 1-3 3-5 of 5");
        Check.due("two of them", spans(line(5), 2, 2, 0, 0, 3), "3-5 of 2");
    }

    /**
     * "u units of a segment are walked at first 0; as long as what is left of the dash is less than L - u, it ends
     * there [...] else what is left of it is less by L - u, and the next segment comes."
     */
    private static void dashesEndBeforeTheSegmentDoes() {
        Check.due("one less", spans(line(10), 0, 9), "0-9 of 2");
        Check.due("as long as the run", spans(line(10), 0, 10), "0-10 of 1");
        Check.due("one more", spans(line(10), 0, 11), "0-10 of 1");
        Check.due("a gap as long as what is left", spans(line(10), 0, 7, 3), "0-7 of 2");
        Check.due("one less than the first segment", spans(line(4, 10), 0, 3), "0-3 6-9 of 4");
        Check.due("as long as the first segment", spans(line(4, 10), 0, 4, 3), "0-4 7-10 of 3");
        Check.due("one more than the first segment", spans(line(4, 10), 0, 5, 3), "0-4 4-5 8-10 of 3");
        Check.due("a gap to the end of a segment", spans(line(4, 10), 0, 2), "0-2 4-6 8-10 of 5");
        Check.due("both segments", spans(line(4, 10), 0, 10), "0-4 4-10 of 1");
        Check.due("both segments less one", spans(line(4, 10), 0, 9), "0-4 4-9 of 2");
        Check.due("segments of one unit", spans(line(1, 2, 3, 4, 5), 0, 2), "0-1 1-2 4-5 of 3");
    }

    /** "u is more by that, the place is the CUT at a + (dx u / L + 1/2)', likewise for b" */
    private static void cuts() {
        StrokePieces x = Given.pen(1, 0, 0, 655360);
        Given.dashes(x, 0, 1);
        Given.row(x, 50, 60, 51, 62);
        Check.due("a half goes up", x.stroke(), 1);
        Check.piece("a half goes up", x, 0, 0, 49, 61, 50, 62, 52, 60, 51, 59);
        x.clear();
        Given.row(x, 50, 60, 49, 58);
        Check.due("also below 0", x.stroke(), 1);
        Check.piece("also below 0", x, 0, 0, 51, 60, 51, 59, 49, 59, 49, 60);
        x.clear();
        // L is 9, 7 u / 9 is rounded to 0, 1, 2, 2, 3, 4, 5, 5, 6: each by itself, not one from another.
        Given.row(x, 0, 0, 7, 7);
        Check.due("slanting", spans(x, 0, 1), "-1-0 2-3 5-6 of 9");
        x.clear();
        Given.row(x, 0, 0, -7, -7);
        // -7 u / 9 is rounded to 0, -1, -2, -2, -3, -4, -5, -5, -6.
        Check.due("the other way", spans(x, 0, 1), "1-0 -2--3 -5--6 of 9");
        x.clear();
        // The greatest dx u: 10 and 5 units before the end, which is 7.07 and 3.54 before the corner of the places.
        Given.row(x, -FAR, -FAR, FAR, FAR);
        walks("the longest way", x, 7, 1, 0, FAR, 0, FAR, 0, 444758415, 5, FAR);
        Check.piece("the longest way", x, 0, 0, FAR - 8, FAR - 6, FAR - 5, FAR - 3, FAR - 3, FAR - 5, FAR - 6, FAR - 8);
    }

    /** "and the next dash is taken (one of no length ends there, too, and so on)" */
    private static void dashesOfNoLength() {
        Check.due("a gap", spans(line(10), 0, 5, 0), "0-5 5-10 of 3");
        Check.due("a dash", spans(line(10), 0, 3, 2, 0, 2), "0-3 7-10 of 5");
        Check.due("a gap and a dash", spans(line(10), 0, 3, 0, 0, 2), "0-3 5-8 of 8");
        Check.due("two gaps and a dash", spans(line(10), 0, 3, 0, 0, 0, 2), "0-3 3-5 of 10");
        Check.due("none behind the end", spans(line(10), 0, 10, 0), "0-10 of 1");
        Check.due("nor behind a gap", spans(line(10), 0, 5, 5, 0, 0), "0-5 of 2");
        Check.due("at the end of a segment", spans(line(4, 10), 0, 4, 0, 6), "0-4 4-10 of 3");
        StrokePieces x = Given.pen(1, 1, 0, 655360);
        Given.row(x, 0, 0, 10, 0);
        Given.dashes(x, 0, 3, 2, 0, 2);
        Check.due("a dash of no length has no caps", x.stroke(), 6);
        x = Given.pen(1, 0, 0, 655360);
        Given.row(x, 0, 0, 8, 0, 8, 8);
        Given.dashes(x, 0, 4, 0);
        Check.due("a gap of no length at a corner leaves no join", x.stroke(), 4);
        Check.due("four dashes, three gaps", x.walked(), 7);
    }

    /**
     * "What lies in a dash that is no gap, with the points that it passes, is an open run (its points that are the
     * same as the one before are passed over)"
     */
    private static void openRunsInDashes() {
        StrokePieces x = Given.pen(1, 1, 1, 655360);
        Given.row(x, 0, 0, 10, 0, 10, 10, 20, 10);
        Given.dashes(x, 0, 5, 3, 15, 100);
        Check.due("three pieces, then caps, three sides and two joins", x.stroke(), 10);
        Check.due("two dashes and two gaps", x.walked(), 4);
        Check.piece("its beginning", x, 3, 3, 8, -1, 7, -1, 7, 1, 8, 1);
        Check.piece("a side", x, 4, 0, 8, 1, 10, 1, 10, -1, 8, -1);
        Check.piece("a join", x, 5, 1, 10, 0, 10, -1, 11, 0);
        Check.piece("its last side", x, 8, 0, 10, 11, 13, 11, 13, 9, 10, 9);
        Check.piece("its end", x, 9, 3, 13, 11, 14, 11, 14, 9, 13, 9);
        x.clear();
        Given.row(x, 0, 0, 10, 0, 10, 10);
        Given.dashes(x, 0, 5, 5, 3, 100);
        Check.due("one that begins at a corner has no join there", x.stroke(), 6);
        Given.dashes(x, 0, 10, 100);
        Check.due("nor has one that ends there", x.stroke(), 3);
        x.clear();
        // L is 4, 3 u / 4 is rounded to 0, 1, 2, 2: the second dash begins and ends at the same place.
        Given.row(x, 0, 0, 3, 3);
        Given.dashes(x, 0, 1);
        Check.due("a dash whose places are the same has no pieces, no caps either", x.stroke(), 3);
        Check.due("but is walked", x.walked(), 4);
    }

    /** "With dashes each run is WALKED, from its first point on with the state behind the offset" */
    private static void eachRunAnew() {
        StrokePieces x = line(2);
        Given.row(x, 10, 0, 12, 0);
        Given.row(x, 20, 0, 26, 0);
        Check.due("each row", spans(x, 4, 5, 3), "0-1 10-11 20-21 24-26 of 7");
        Check.due("each stroke", spans(x, 4, 5, 3), "0-1 10-11 20-21 24-26 of 7");
        Check.due("each from a gap on", spans(x, 6, 5, 3), "22-26 of 4");
    }

    /** "(a closed one from its first point back to that)" */
    private static void closedRunsAreWalkedBack() {
        StrokePieces x = line(10);
        x.close();
        Check.due("of two points", spans(x, 0, 15, 2), "0-10 10-5 3-0 of 3");
        Check.due("a dash as long as both ways", spans(x, 0, 20), "0-10 10-0 of 1");
        Check.due("one less", spans(x, 0, 19), "0-10 10-1 of 2");
        x = Given.pen(1, 0, 1, 655360);
        Given.ring(x, 0, 0, 10, 0, 10, 10, 0, 10, 0, 0);
        walks("the whole way has no join at the first point", x, 1, 7, 40);
        walks("one less", x, 2, 7, 39);
        Check.piece("one less", x, 6, 0, 1, 10, 1, 1, -1, 1, -1, 10);
        walks("two dashes meet at the first point, with no join", x, 3, 2, 5, 30);
        Check.piece("the last one", x, 1, 0, 1, 5, 1, 0, -1, 0, -1, 5);
        walks("a gap on the way back", x, 2, 5, 30, 10);
    }

    /**
     * "its pieces are made when it ends, before the next dash is taken": seven are taken in each unit, and the 20000th
     * is the dash (of unit 2858) or gap where the row comes too near to the edge.
     */
    private static void piecesBeforeTheNextDash() {
        StrokePieces x = Given.pen(3, 0, 0, 655360);
        Given.dashes(x, 1, 1, 0, 0, 0, 0, 0, 0);
        int y = FAR - 3;
        Given.row(x, 0, y, 2856, y, 2856, y + 1, 2858, y + 1);
        Check.due("a corner of the 20000th is beyond before one more is taken", x.stroke(), StrokePieces.RANGE);
        x.clear();
        Given.row(x, 0, y - 1, 2856, y - 1, 2856, y, 2858, y);
        Check.due("one more is taken", x.stroke(), StrokePieces.FULL);
        x.clear();
        Given.row(x, 0, y - 1, 2856, y - 1, 2856, y, 2857, y);
        Check.due("no more is taken", x.stroke(), 1429);
        x.dashes(7, 0);
        x.clear();
        Given.row(x, 0, y, 2857, y, 2857, y + 1, 2860, y + 1);
        Check.due("the dash that would be beyond is not taken", x.stroke(), StrokePieces.FULL);
    }

    /** "the last one ends with what is walked." */
    private static void lastDash() {
        Check.due("within a dash", spans(line(10), 0, 6, 3), "0-6 9-10 of 3");
        Check.due("at the end of a dash", spans(line(11), 0, 6, 3, 2), "0-6 9-11 of 3");
        Check.due("at the end of a gap", spans(line(9), 0, 6, 3), "0-6 of 2");
        Check.due("within the first dash", spans(line(1), 0, FAR), "0-1 of 1");
        StrokePieces x = line(10);
        Given.row(x, 20, 0, 30, 0);
        Check.due("each row's last one", spans(x, 0, 6, 3), "0-6 9-10 20-26 29-30 of 6");
    }

    /** "At most 20000 dashes and gaps are taken in a stroke": 7 L - 6 in L units, and none for the offset. */
    private static void mostDashes() {
        for (int offset : new int[] {0, 1, 2, 20001, FAR - 1, FAR}) {
            StrokePieces x = line(2858);
            Given.dashes(x, offset, 1, 0, 0, 0, 0, 0, 0);
            Check.due("20000", x.stroke(), 1429);
            Check.due("20000 walked", x.walked(), 20000);
            x.line(2859, 0);
            Check.due("20001", x.stroke(), StrokePieces.FULL);
            Check.due("20001: no pieces", x.pieces(), 0);
            Check.due("20001: none walked", x.walked(), 0);
        }
        StrokePieces x = line(FAR);
        Given.dashes(x, 0, 0, 1);
        Check.due("many more, of no pieces", x.stroke(), StrokePieces.FULL);
    }

    /** "the one that is there where a run begins, and each further one." */
    private static void mostDashesCountRuns() {
        StrokePieces x = line(2857);
        Given.dashes(x, 0, 1, 0, 0, 0, 0, 0, 0);
        Check.due("19993", x.stroke(), 1429);
        Check.due("19993 walked", x.walked(), 19993);
        for (int i = 1; i <= 7; i++) {
            Given.row(x, i, i, i + 1, i);
            Check.due("a run more", x.stroke(), 1429 + i);
            Check.due("one more walked", x.walked(), 19993 + i);
        }
        x.move(5, 5);
        Check.due("a run of one point", x.stroke(), 1436);
        Check.due("is not walked", x.walked(), 20000);
        x.line(5, 6);
        Check.due("the eighth", x.stroke(), StrokePieces.FULL);
        x.dashes(7, 1);
        Check.due("also in a gap", x.stroke(), StrokePieces.FULL);
    }

    /** "At most 2000 pieces are made." */
    private static void mostPieces() {
        StrokePieces x = line(3999);
        Given.dashes(x, 0, 1);
        Check.due("2000", x.stroke(), 2000);
        Check.due("the last one", x.corner(1999, 1, 0), 3999);
        x.line(4000, 0);
        Check.due("a gap more", x.stroke(), 2000);
        x.line(4001, 0);
        Check.due("2001", x.stroke(), StrokePieces.FULL);
        Check.due("2001: no pieces", x.pieces(), 0);
        x.clear();
        Given.row(x, 0, 0, 1999, 0);
        Given.row(x, 0, 5, 1999, 5);
        Check.due("2000 of two rows", x.stroke(), 2000);
        Given.row(x, 0, 9, 1, 9);
        Check.due("and a row more", x.stroke(), StrokePieces.FULL);
    }

    /** The same: joins and caps are pieces, too. Dashes of two units have three pieces, with a corner five. */
    private static void mostPiecesOfEachSort() {
        StrokePieces x = Given.pen(1, 1, 1, 655360);
        Given.dashes(x, 0, 2);
        Given.row(x, 0, 0, 2660, 0);
        Given.row(x, 0, 5, 1, 5, 1, 6);
        Check.due("665 dashes and one with a corner", x.stroke(), 2000);
        Check.due("the last one", x.sort(1999), 3);
        Check.due("none behind it", x.sort(2000), StrokePieces.BAD);
        x.pen(1, 0, 1, 655360);
        Check.due("without caps", x.stroke(), 668);
        x.pen(1, 1, 1, 655360);
        x.clear();
        Given.row(x, 0, 0, 2666, 0);
        Check.due("667 dashes, of which the last cap is the 2001st", x.stroke(), StrokePieces.FULL);
        x.clear();
        Given.row(x, 0, 0, 2662, 0);
        Given.row(x, 0, 5, 1, 5, 1, 6);
        Check.due("666 and one with a corner", x.stroke(), StrokePieces.FULL);
        x.pen(1, 0, 0, 655360);
        x.clear();
        Given.row(x, 0, 0, 7986, 0);
        Given.row(x, 0, 5, 1, 5, 1, 6);
        Check.due("1997 and two sides with a mitre", x.stroke(), 2000);
        x.clear();
        Given.row(x, 0, 0, 7990, 0);
        Given.row(x, 0, 5, 1, 5, 1, 6);
        Check.due("1998 and two sides with a mitre", x.stroke(), StrokePieces.FULL);
    }

    /** "`RANGE = -4`: A place would be too far away.": corners of each sort, on all four edges. */
    private static void cornersTooFarAway() {
        int[][] turns = {{1, 0, 0, 1}, {0, -1, 1, 0}, {-1, 0, 0, -1}, {0, 1, -1, 0}};
        for (int[] t : turns) {
            int e = FAR - 4;
            edge("a side", 4, 0, 0, 1, t, 0, e, 100, e);
            edge("a side, the other way", 4, 0, 0, 1, t, 100, e, 0, e);
            edge("the cap of an end", 4, 1, 0, 3, t, 0, 0, 0, e);
            edge("the cap of a beginning", 4, 1, 0, 3, t, 0, e, 0, 0);
            // n is (-3, 4), n2 is (3, 4), q is (0, 6): the mitre goes 6 up, the sides 4.
            edge("a mitre", 5, 0, 0, 3, t, -40, FAR - 36, 0, FAR - 6, 40, FAR - 36);
            edge("a bevel", 5, 0, 1, 3, t, -40, FAR - 34, 0, FAR - 4, 40, FAR - 34);
        }
    }

    /** A row, turned, that has corners at the edge, and is beyond it when it lies one further up. */
    private static void edge(String what, int half, int cap, int join, int due, int[] turn, int... places) {
        for (int up = 0; up <= 1; up++) {
            StrokePieces x = Given.pen(half, cap, join, 655360);
            int[] turned = new int[places.length];
            for (int i = 0; i < places.length; i += 2) {
                turned[i] = turn[0] * places[i] + turn[1] * (places[i + 1] + up);
                turned[i + 1] = turn[2] * places[i] + turn[3] * (places[i + 1] + up);
            }
            Given.row(x, turned);
            Check.due(what, x.stroke(), up == 0 ? due : StrokePieces.RANGE);
            Check.due(what + ": pieces", x.pieces(), up == 0 ? due : 0);
        }
    }
}
