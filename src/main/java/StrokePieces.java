/**
 * Strokes as pieces: the sides of lines of any width, their joins and caps, of whole lines or of
 * dashes along them, as closed lines of three or four corners, each exact but for one rounding.
 */
public final class StrokePieces {
    public static final int BAD = -1;
    public static final int NO = -2;
    public static final int FULL = -3;
    public static final int RANGE = -4;

    private static final int FARTHEST = 536870912;
    private static final int MOST_POINTS = 2000;
    private static final int MOST_PIECES = 2000;
    private static final int MOST_DASHES = 20000;
    private static final int MOST_LENGTHS = 8;

    // A dash along a closed row may begin and end at a cut and pass every point between.
    private static final int MOST_IN_RUN = MOST_POINTS + 2;

    private static final int WIDEST_HALF = 4194304;
    private static final int LEAST_LIMIT = 65536;
    private static final int MOST_LIMIT = 6553600;
    private static final long ONE = 65536L;
    private static final long TWICE_ONE_CUBED = 562949953421312L;

    private static final int SIDE = 0;
    private static final int BEVEL = 1;
    private static final int MITRE = 2;
    private static final int CAP = 3;

    private static final int CORNERS = 4;
    private static final int NUMBERS = 2 * CORNERS;

    // What a stroke has come to while nothing has stopped it; RANGE and FULL are its other values.
    private static final int GOING = 0;

    private final LineRows rows;
    private final Tip tip;
    private final Pattern pattern;
    private final Pieces made;
    private final Outline outline;
    private final Walk walk;
    private final Run run;

    public StrokePieces() {
        rows = new LineRows();
        tip = new Tip();
        pattern = new Pattern();
        made = new Pieces();
        outline = new Outline(tip, made);
        walk = new Walk(pattern, outline, made);
        run = new Run();
    }

    public int move(int x, int y) {
        return rows.begin(x, y);
    }

    public int line(int x, int y) {
        return rows.extend(x, y);
    }

    public int close() {
        return rows.shut();
    }

    public int clear() {
        made.empty();
        return rows.empty();
    }

    public boolean pen(int half, int cap, int join, int limit) {
        return tip.set(half, cap, join, limit);
    }

    public boolean length(int k, int units) {
        return pattern.give(k, units);
    }

    public boolean dashes(int n, int offset) {
        return pattern.use(n, offset);
    }

    public int stroke() {
        made.empty();
        walk.reset();
        int count = rows.count();
        for (int row = 0; row < count && made.isGoing(); row++) {
            rows.copyTo(run, row);
            if (pattern.isUsed()) {
                walk.along(run);
            } else {
                outline.make(run);
            }
        }
        if (made.isGoing()) {
            return made.count();
        }
        int why = made.state();
        made.empty();
        walk.reset();
        return why;
    }

    public int pieces() {
        return made.count();
    }

    public int sort(int i) {
        return made.kindOf(i);
    }

    public int corner(int i, int k, int what) {
        return made.placeOf(i, k, what);
    }

    public int walked() {
        return walk.taken();
    }

    private static boolean isPlace(long v) {
        return v >= -FARTHEST && v <= FARTHEST;
    }

    private static boolean isUnits(int v) {
        return v >= 0 && v <= FARTHEST;
    }

    /** (above / below + 1/2)'; the greatest dividend, dx u of a cut, is under 2^61, so twice it stays inside a long. */
    private static long rounded(long above, long below) {
        if (below <= 0) {
            return 0;
        }
        return Math.floorDiv(2 * above + below, 2 * below);
    }

    /** The greatest whole number whose square is not above v, bit by bit; v is at most 2^61. */
    private static long root(long v) {
        long rest = v;
        long found = 0;
        for (long bit = 1L << 60; bit > 0; bit >>= 2) {
            if (rest >= found + bit) {
                rest -= found + bit;
                found = (found >> 1) + bit;
            } else {
                found >>= 1;
            }
        }
        return found;
    }

    /** The points that were given, row behind row. */
    private static final class LineRows {
        private final int[] x = new int[MOST_POINTS];
        private final int[] y = new int[MOST_POINTS];
        private final int[] first = new int[MOST_POINTS];
        private final boolean[] closed = new boolean[MOST_POINTS];
        private int points;
        private int count;

        int count() {
            return count;
        }

        int begin(int px, int py) {
            if (!isPlace(px) || !isPlace(py)) {
                return RANGE;
            }
            if (points >= MOST_POINTS || count < 0 || count >= MOST_POINTS) {
                return FULL;
            }
            first[count] = points;
            closed[count] = false;
            count++;
            return put(px, py);
        }

        int extend(int px, int py) {
            int latest = count - 1;
            if (latest < 0 || latest >= MOST_POINTS || closed[latest]) {
                return NO;
            }
            if (!isPlace(px) || !isPlace(py)) {
                return RANGE;
            }
            return put(px, py);
        }

        private int put(int px, int py) {
            if (points < 0 || points >= MOST_POINTS) {
                return FULL;
            }
            x[points] = px;
            y[points] = py;
            points++;
            return points;
        }

        int shut() {
            int latest = count - 1;
            if (latest < 0 || latest >= MOST_POINTS) {
                return NO;
            }
            closed[latest] = true;
            return points;
        }

        int empty() {
            int before = points;
            points = 0;
            count = 0;
            return before;
        }

        void copyTo(Run run, int row) {
            if (row < 0 || row >= count || row >= MOST_POINTS) {
                run.start(false);
                return;
            }
            run.start(closed[row]);
            int next = row + 1;
            int end = next < count && next < MOST_POINTS ? first[next] : points;
            for (int i = first[row]; i >= 0 && i < end && i < MOST_POINTS; i++) {
                run.add(x[i], y[i]);
            }
            run.dropLastLikeFirst();
        }
    }

    /** Points in turn, none of them the same as the one before. */
    private static final class Run {
        private final int[] x = new int[MOST_IN_RUN];
        private final int[] y = new int[MOST_IN_RUN];
        private int count;
        private boolean ring;

        void start(boolean closed) {
            count = 0;
            ring = closed;
        }

        void add(int px, int py) {
            int last = count - 1;
            if (last >= 0 && last < MOST_IN_RUN && x[last] == px && y[last] == py) {
                return;
            }
            if (count < 0 || count >= MOST_IN_RUN) {
                return;
            }
            x[count] = px;
            y[count] = py;
            count++;
        }

        void dropLastLikeFirst() {
            int last = count - 1;
            while (ring && last > 0 && last < MOST_IN_RUN && x[last] == x[0] && y[last] == y[0]) {
                count = last;
                last--;
            }
        }

        boolean isRing() {
            return ring;
        }

        int segments() {
            if (count < 2) {
                return 0;
            }
            return ring ? count : count - 1;
        }

        int xAt(int i) {
            return x[inside(i)];
        }

        int yAt(int i) {
            return y[inside(i)];
        }

        /** Behind the last point comes the first one, as the way back of a closed run needs it. */
        private int inside(int i) {
            return i >= 0 && i < count && i < MOST_IN_RUN ? i : 0;
        }
    }

    /** The way from a point of a run to the next one. */
    private static final class Segment {
        private long ax;
        private long ay;
        private long bx;
        private long by;
        private long dx;
        private long dy;
        private long size;
        private long nx;
        private long ny;
        private long tx;
        private long ty;

        void set(Run run, int i) {
            ax = run.xAt(i);
            ay = run.yAt(i);
            bx = run.xAt(i + 1);
            by = run.yAt(i + 1);
            dx = bx - ax;
            dy = by - ay;
            size = root(dx * dx + dy * dy);
        }

        /** Halves go up, so (-dy h / L + 1/2)' is not always the negative of (dy h / L + 1/2)'. */
        void widen(long half) {
            nx = rounded(-dy * half, size);
            ny = rounded(dx * half, size);
            tx = ny;
            ty = rounded(dy * half, size);
        }

        int cutX(long gone) {
            return (int) (ax + rounded(dx * gone, size));
        }

        int cutY(long gone) {
            return (int) (ay + rounded(dy * gone, size));
        }
    }

    /** The pen. */
    private static final class Tip {
        private long half = 32768;
        private boolean caps;
        private boolean bevels;
        private long bound = leastCosine(655360);

        boolean set(int newHalf, int cap, int join, int limit) {
            if (newHalf < 1 || newHalf > WIDEST_HALF || cap < 0 || cap > 1) {
                return false;
            }
            if (join < 0 || join > 1 || limit < LEAST_LIMIT || limit > MOST_LIMIT) {
                return false;
            }
            half = newHalf;
            caps = cap == 1;
            bevels = join == 1;
            bound = leastCosine(limit);
            return true;
        }

        /** The document's C: what the cosine between two acrosses must reach, in 65536ths. */
        private static long leastCosine(int limit) {
            long square = (long) limit * limit;
            if (square <= 0) {
                return ONE;
            }
            return TWICE_ONE_CUBED / square - ONE;
        }

        long half() {
            return half;
        }

        boolean hasCaps() {
            return caps;
        }

        boolean allowsMitre(long cosine) {
            return !bevels && cosine * ONE >= bound * half * half;
        }

        /** The document's w; where a mitre is allowed, the divisor is above 0, as C is above -65536. */
        long reach(long cosine) {
            return rounded(half * half * ONE, half * half + cosine);
        }
    }

    /** The pieces of the latest stroke. Once something has stopped it, no more of them are taken. */
    private static final class Pieces {
        private final int[] kinds = new int[MOST_PIECES];
        private final int[] places = new int[MOST_PIECES * NUMBERS];
        private int count;
        private int corners;
        private int state = GOING;

        void empty() {
            count = 0;
            corners = 0;
            state = GOING;
        }

        boolean isGoing() {
            return state == GOING;
        }

        int state() {
            return state;
        }

        int count() {
            return count;
        }

        /** The first reason is the one that stays. */
        void stop(int why) {
            if (state == GOING) {
                state = why;
            }
        }

        void start(int kind) {
            if (state != GOING) {
                return;
            }
            if (count < 0 || count >= MOST_PIECES) {
                stop(FULL);
                return;
            }
            kinds[count] = kind;
            count++;
            corners = 0;
        }

        void add(long px, long py) {
            if (state != GOING) {
                return;
            }
            if (!isPlace(px) || !isPlace(py)) {
                stop(RANGE);
                return;
            }
            int at = (count - 1) * NUMBERS + 2 * corners;
            if (at < 0 || at + 1 >= places.length || corners >= CORNERS) {
                return;
            }
            places[at] = (int) px;
            places[at + 1] = (int) py;
            corners++;
        }

        int kindOf(int i) {
            return i >= 0 && i < count && i < MOST_PIECES ? kinds[i] : BAD;
        }

        int placeOf(int i, int k, int what) {
            int kind = kindOf(i);
            if (kind == BAD || k < 0 || k >= (kind == BEVEL ? CORNERS - 1 : CORNERS)) {
                return 0;
            }
            if (what < 0 || what > 1) {
                return 0;
            }
            int at = i * NUMBERS + 2 * k + what;
            return at >= 0 && at < places.length ? places[at] : 0;
        }
    }

    /** Makes the pieces of a run. */
    private static final class Outline {
        private final Tip tip;
        private final Pieces made;
        private Segment here = new Segment();
        private Segment next = new Segment();

        Outline(Tip tip, Pieces made) {
            this.tip = tip;
            this.made = made;
        }

        void make(Run run) {
            int segments = run.segments();
            if (segments == 0) {
                return;
            }
            boolean capped = tip.hasCaps() && !run.isRing();
            here.set(run, 0);
            here.widen(tip.half());
            if (capped) {
                capBeginning();
            }
            for (int i = 0; i < segments && made.isGoing(); i++) {
                side();
                if (i + 1 < segments || run.isRing()) {
                    next.set(run, i + 1 < segments ? i + 1 : 0);
                    next.widen(tip.half());
                    joinBoth();
                    goOn();
                }
            }
            if (capped) {
                capEnd();
            }
        }

        private void goOn() {
            Segment behind = here;
            here = next;
            next = behind;
        }

        private void side() {
            made.start(SIDE);
            made.add(here.ax + here.nx, here.ay + here.ny);
            made.add(here.bx + here.nx, here.by + here.ny);
            made.add(here.bx - here.nx, here.by - here.ny);
            made.add(here.ax - here.nx, here.ay - here.ny);
        }

        private void capBeginning() {
            made.start(CAP);
            made.add(here.ax - here.nx, here.ay - here.ny);
            made.add(here.ax - here.nx - here.tx, here.ay - here.ny - here.ty);
            made.add(here.ax + here.nx - here.tx, here.ay + here.ny - here.ty);
            made.add(here.ax + here.nx, here.ay + here.ny);
        }

        private void capEnd() {
            made.start(CAP);
            made.add(here.bx + here.nx, here.by + here.ny);
            made.add(here.bx + here.nx + here.tx, here.by + here.ny + here.ty);
            made.add(here.bx - here.nx + here.tx, here.by - here.ny + here.ty);
            made.add(here.bx - here.nx, here.by - here.ny);
        }

        private void joinBoth() {
            long turn = here.dx * next.dy - here.dy * next.dx;
            if (turn == 0) {
                return;
            }
            long out = turn > 0 ? -1 : 1;
            long cosine = here.nx * next.nx + here.ny * next.ny;
            boolean pointed = tip.allowsMitre(cosine);
            made.start(pointed ? MITRE : BEVEL);
            made.add(here.bx, here.by);
            made.add(here.bx + out * here.nx, here.by + out * here.ny);
            if (pointed) {
                long w = tip.reach(cosine);
                long qx = rounded((here.nx + next.nx) * w, ONE);
                long qy = rounded((here.ny + next.ny) * w, ONE);
                made.add(here.bx + out * qx, here.by + out * qy);
            }
            made.add(here.bx + out * next.nx, here.by + out * next.ny);
        }
    }

    /** The lengths that were given, and those that are used as dashes with the state behind their offset. */
    private static final class Pattern {
        private final int[] given = new int[MOST_LENGTHS];
        private final int[] used = new int[MOST_LENGTHS];
        private int count;
        private int firstAt;
        private long firstLeft;
        private boolean firstGap;

        boolean give(int k, int units) {
            if (k < 0 || k >= MOST_LENGTHS || !isUnits(units)) {
                return false;
            }
            given[k] = units;
            return true;
        }

        boolean use(int n, int offset) {
            if (n < 0 || n > MOST_LENGTHS || !isUnits(offset)) {
                return false;
            }
            long total = 0;
            for (int k = 0; k < n; k++) {
                total += given[k];
            }
            if (n > 0 && total == 0) {
                return false;
            }
            count = n;
            for (int k = 0; k < n; k++) {
                used[k] = given[k];
            }
            passOffset(offset, total);
            return true;
        }

        /** Whole turns are passed at once: an offset may hold their sum hundreds of millions of times. */
        private void passOffset(int offset, long total) {
            if (total <= 0) {
                return;
            }
            long turns = offset / total;
            long rest = offset - turns * total;
            int at = 0;
            while (at < count - 1 && at < MOST_LENGTHS - 1 && used[at] <= rest) {
                rest -= used[at];
                at++;
            }
            firstAt = at;
            firstLeft = used[at] - rest;
            firstGap = ((turns * count + at) & 1) == 1;
        }

        boolean isUsed() {
            return count > 0;
        }

        int firstAt() {
            return firstAt;
        }

        long firstLeft() {
            return firstLeft;
        }

        boolean firstGap() {
            return firstGap;
        }

        int behind(int at) {
            return at + 1 < count ? at + 1 : 0;
        }

        long lengthOf(int at) {
            return at >= 0 && at < MOST_LENGTHS ? used[at] : 0;
        }
    }

    /** Walks runs by their lengths and strokes what lies in dashes. */
    private static final class Walk {
        private final Pattern pattern;
        private final Outline outline;
        private final Pieces made;
        private final Segment way = new Segment();
        private final Run dash = new Run();
        private int taken;
        private int at;
        private long left;
        private boolean gap;

        Walk(Pattern pattern, Outline outline, Pieces made) {
            this.pattern = pattern;
            this.outline = outline;
            this.made = made;
        }

        void reset() {
            taken = 0;
        }

        int taken() {
            return taken;
        }

        void along(Run run) {
            int segments = run.segments();
            if (segments == 0) {
                // Runs are walked by the lengths of their segments: one of a single point takes no dash.
                return;
            }
            at = pattern.firstAt();
            left = pattern.firstLeft();
            gap = pattern.firstGap();
            countOne();
            beginDash(run.xAt(0), run.yAt(0));
            for (int i = 0; i < segments && made.isGoing(); i++) {
                way.set(run, i);
                pass();
            }
            if (!gap) {
                outline.make(dash);
            }
        }

        private void pass() {
            long gone = 0;
            // Each turn takes a dash, so that the stroke is full before the turns are.
            for (int turn = 0; turn <= MOST_DASHES && left < way.size - gone && made.isGoing(); turn++) {
                gone += left;
                int x = way.cutX(gone);
                int y = way.cutY(gone);
                if (!gap) {
                    dash.add(x, y);
                    outline.make(dash);
                }
                takeNext();
                beginDash(x, y);
            }
            left -= way.size - gone;
            if (!gap) {
                dash.add((int) way.bx, (int) way.by);
            }
        }

        private void takeNext() {
            countOne();
            at = pattern.behind(at);
            left = pattern.lengthOf(at);
            gap = !gap;
        }

        private void beginDash(int x, int y) {
            dash.start(false);
            if (!gap) {
                dash.add(x, y);
            }
        }

        private void countOne() {
            if (taken >= MOST_DASHES) {
                made.stop(FULL);
                return;
            }
            taken++;
        }
    }
}
