import java.math.BigInteger;
import java.util.ArrayList;
import java.util.List;

/** The document said again as literally as possible, with numbers of any size and no thought of speed. */
final class Model {
    private static final class Stop extends RuntimeException {
        private static final long serialVersionUID = 1L;
        final int why;

        Stop(int why) {
            super(null, null, false, false);
            this.why = why;
        }
    }

    private record Point(long x, long y) {
        Point plus(Point o) {
            return new Point(x + o.x, y + o.y);
        }

        Point minus(Point o) {
            return new Point(x - o.x, y - o.y);
        }

        Point times(long v) {
            return new Point(x * v, y * v);
        }
    }

    private static final class Row {
        final List<Point> points = new ArrayList<>();
        boolean closed;
    }

    private record Piece(int sort, List<Point> corners) {
    }

    private record Way(Point a, Point b, BigInteger dx, BigInteger dy, BigInteger len, Point n, Point t) {
    }

    private final List<Row> rows = new ArrayList<>();
    private long h = 32768;
    private int cap = 0;
    private int join = 0;
    private long limit = 655360;
    private final long[] lengths = new long[8];
    private long[] dashes = new long[0];
    private long offset = 0;
    private List<Piece> pieces = new ArrayList<>();
    private int walked = 0;

    private static boolean place(long v) {
        return v >= -536870912L && v <= 536870912L;
    }

    private int points() {
        int n = 0;
        for (Row r : rows) {
            n += r.points.size();
        }
        return n;
    }

    private Row latest() {
        return rows.isEmpty() ? null : rows.get(rows.size() - 1);
    }

    int move(int x, int y) {
        if (!place(x) || !place(y)) {
            return -4;
        }
        rows.add(new Row());
        latest().points.add(new Point(x, y));
        return points();
    }

    int line(int x, int y) {
        if (latest() == null || latest().closed) {
            return -2;
        }
        if (!place(x) || !place(y)) {
            return -4;
        }
        latest().points.add(new Point(x, y));
        return points();
    }

    int close() {
        if (latest() == null) {
            return -2;
        }
        latest().closed = true;
        return points();
    }

    int clear() {
        int n = points();
        rows.clear();
        pieces = new ArrayList<>();
        return n;
    }

    boolean pen(int half, int newCap, int newJoin, int newLimit) {
        boolean good = half >= 1 && half <= 4194304 && (newCap == 0 || newCap == 1)
                && (newJoin == 0 || newJoin == 1) && newLimit >= 65536 && newLimit <= 6553600;
        if (good) {
            h = half;
            cap = newCap;
            join = newJoin;
            limit = newLimit;
        }
        return good;
    }

    boolean length(int k, int units) {
        if (k < 0 || k > 7 || units < 0 || units > 536870912) {
            return false;
        }
        lengths[k] = units;
        return true;
    }

    boolean dashes(int n, int newOffset) {
        if (n < 0 || n > 8 || newOffset < 0 || newOffset > 536870912) {
            return false;
        }
        long[] some = java.util.Arrays.copyOf(lengths, n);
        if (n > 0 && java.util.Arrays.stream(some).sum() == 0) {
            return false;
        }
        dashes = some;
        offset = newOffset;
        return true;
    }

    int stroke() {
        pieces = new ArrayList<>();
        walked = 0;
        try {
            for (Row row : rows) {
                strokeRow(row);
            }
        } catch (Stop stop) {
            pieces = new ArrayList<>();
            walked = 0;
            return stop.why;
        }
        return pieces.size();
    }

    int pieces() {
        return pieces.size();
    }

    int sort(int i) {
        return i < 0 || i >= pieces.size() ? -1 : pieces.get(i).sort;
    }

    int corner(int i, int k, int what) {
        if (i < 0 || i >= pieces.size() || k < 0 || k >= pieces.get(i).corners.size() || what < 0 || what > 1) {
            return 0;
        }
        Point p = pieces.get(i).corners.get(k);
        return (int) (what == 0 ? p.x : p.y);
    }

    int walked() {
        return walked;
    }

    private static List<Point> without(List<Point> all) {
        List<Point> left = new ArrayList<>();
        for (Point p : all) {
            if (left.isEmpty() || !left.get(left.size() - 1).equals(p)) {
                left.add(p);
            }
        }
        return left;
    }

    private void strokeRow(Row row) {
        List<Point> run = without(row.points);
        while (row.closed && run.size() > 1 && run.get(run.size() - 1).equals(run.get(0))) {
            run.remove(run.size() - 1);
        }
        if (dashes.length > 0) {
            walkRun(run, row.closed);
        } else {
            outline(run, row.closed);
        }
    }

    /** (above / below + 1/2)', by the greatest whole number not above a quotient. */
    private static long nearest(BigInteger above, BigInteger below) {
        BigInteger two = BigInteger.TWO;
        BigInteger[] parts = above.multiply(two).add(below).divideAndRemainder(below.multiply(two));
        BigInteger whole = parts[1].signum() < 0 ? parts[0].subtract(BigInteger.ONE) : parts[0];
        return whole.longValueExact();
    }

    private static BigInteger big(long v) {
        return BigInteger.valueOf(v);
    }

    private Way way(Point a, Point b) {
        BigInteger dx = big(b.x - a.x);
        BigInteger dy = big(b.y - a.y);
        BigInteger len = dx.multiply(dx).add(dy.multiply(dy)).sqrt();
        BigInteger half = big(h);
        long right = nearest(dx.multiply(half), len);
        Point n = new Point(nearest(dy.negate().multiply(half), len), right);
        Point t = new Point(right, nearest(dy.multiply(half), len));
        return new Way(a, b, dx, dy, len, n, t);
    }

    private void put(int sort, Point... corners) {
        if (pieces.size() == 2000) {
            throw new Stop(-3);
        }
        for (Point p : corners) {
            if (!place(p.x) || !place(p.y)) {
                throw new Stop(-4);
            }
        }
        pieces.add(new Piece(sort, List.of(corners)));
    }

    private void outline(List<Point> run, boolean closed) {
        if (run.size() < 2) {
            return;
        }
        List<Way> ways = new ArrayList<>();
        for (int i = 0; i + 1 < run.size(); i++) {
            ways.add(way(run.get(i), run.get(i + 1)));
        }
        if (closed) {
            ways.add(way(run.get(run.size() - 1), run.get(0)));
        }
        Way first = ways.get(0);
        if (!closed && cap == 1) {
            Point a = first.a;
            Point n = first.n;
            Point t = first.t;
            put(3, a.minus(n), a.minus(n).minus(t), a.plus(n).minus(t), a.plus(n));
        }
        for (int i = 0; i < ways.size(); i++) {
            Way w = ways.get(i);
            put(0, w.a.plus(w.n), w.b.plus(w.n), w.b.minus(w.n), w.a.minus(w.n));
            if (i + 1 < ways.size()) {
                joinOf(w, ways.get(i + 1));
            } else if (closed) {
                joinOf(w, first);
            }
        }
        if (!closed && cap == 1) {
            Way last = ways.get(ways.size() - 1);
            Point b = last.b;
            Point n = last.n;
            Point t = last.t;
            put(3, b.plus(n), b.plus(n).plus(t), b.minus(n).plus(t), b.minus(n));
        }
    }

    private void joinOf(Way one, Way two) {
        int z = one.dx.multiply(two.dy).subtract(one.dy.multiply(two.dx)).signum();
        if (z == 0) {
            return;
        }
        long v = z > 0 ? -1 : 1;
        Point p = one.b;
        Point n = one.n;
        Point n2 = two.n;
        BigInteger c = big(n.x).multiply(big(n2.x)).add(big(n.y).multiply(big(n2.y)));
        BigInteger hh = big(h).multiply(big(h));
        BigInteger least = big(562949953421312L).divide(big(limit).multiply(big(limit))).subtract(big(65536));
        if (join == 0 && c.multiply(big(65536)).compareTo(least.multiply(hh)) >= 0) {
            BigInteger w = big(nearest(hh.multiply(big(65536)), hh.add(c)));
            Point q = new Point(nearest(big(n.x + n2.x).multiply(w), big(65536)),
                    nearest(big(n.y + n2.y).multiply(w), big(65536)));
            put(2, p, p.plus(n.times(v)), p.plus(q.times(v)), p.plus(n2.times(v)));
        } else {
            put(1, p, p.plus(n.times(v)), p.plus(n2.times(v)));
        }
    }

    private void take() {
        if (walked == 20000) {
            throw new Stop(-3);
        }
        walked++;
    }

    private void walkRun(List<Point> run, boolean closed) {
        if (run.size() < 2) {
            return;
        }
        long rest = offset;
        long turn = 0;
        while (dashes[(int) (turn % dashes.length)] <= rest) {
            rest -= dashes[(int) (turn % dashes.length)];
            turn++;
        }
        long left = dashes[(int) (turn % dashes.length)] - rest;
        take();
        List<Point> inside = new ArrayList<>();
        inside.add(run.get(0));
        List<Point> stops = new ArrayList<>(run);
        if (closed) {
            stops.add(run.get(0));
        }
        for (int i = 0; i + 1 < stops.size(); i++) {
            Way w = way(stops.get(i), stops.get(i + 1));
            long len = w.len.longValueExact();
            long u = 0;
            while (left < len - u) {
                u += left;
                Point cut = new Point(w.a.x + nearest(w.dx.multiply(big(u)), w.len),
                        w.a.y + nearest(w.dy.multiply(big(u)), w.len));
                inside.add(cut);
                if (turn % 2 == 0) {
                    outline(without(inside), false);
                }
                take();
                turn++;
                left = dashes[(int) (turn % dashes.length)];
                inside.clear();
                inside.add(cut);
            }
            left -= len - u;
            inside.add(w.b);
        }
        if (turn % 2 == 0) {
            outline(without(inside), false);
        }
    }
}
