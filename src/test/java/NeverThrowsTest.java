import java.util.Random;

/** Any arguments in any state, far beyond 512 calls: no call throws, and each one ends. */
final class NeverThrowsTest {
    private static final int[] ODD = {0, 1, -1, 2, 3, 7, 8, 9, 65535, 65536, 6553600, 4194304, 536870912, -536870912,
        536870913, Integer.MAX_VALUE, Integer.MIN_VALUE};

    private NeverThrowsTest() {
    }

    public static void main(String[] args) {
        for (int seed = 0; seed < 40; seed++) {
            anyCalls(new Random(seed));
        }
        tooManyPoints(false);
        tooManyPoints(true);
        tooManyRows();
        Check.end();
    }

    private static int any(Random random) {
        return random.nextInt(4) == 0 ? ODD[random.nextInt(ODD.length)] : random.nextInt(20) - 5;
    }

    private static void anyCalls(Random r) {
        StrokePieces x = new StrokePieces();
        for (int i = 0; i < 3000; i++) {
            switch (r.nextInt(r.nextInt(10) == 0 ? 11 : 10)) {
                case 0, 1 -> x.move(any(r), any(r));
                case 2, 3 -> x.line(any(r), any(r));
                case 4 -> x.close();
                case 5 -> x.pen(any(r), any(r), any(r), any(r));
                case 6 -> x.length(any(r), any(r));
                case 7 -> x.dashes(any(r), any(r));
                case 8 -> x.stroke();
                case 9 -> x.corner(any(r), any(r), any(r));
                default -> x.clear();
            }
            int pieces = x.pieces();
            Check.due("as many pieces as sorts", x.sort(pieces), StrokePieces.BAD);
            Check.due("a last piece", pieces == 0 || x.sort(pieces - 1) >= 0, true);
        }
    }

    private static void tooManyPoints(boolean dashed) {
        StrokePieces x = new StrokePieces();
        x.pen(1, 0, 0, 655360);
        x.length(0, 536870912);
        x.dashes(dashed ? 1 : 0, 0);
        x.move(0, 0);
        for (int i = 1; i < 3000; i++) {
            Check.due("a point", x.line(i, i % 2 * 50), i < 2000 ? i + 1 : StrokePieces.FULL);
        }
        Check.due("a row", x.move(0, 0), StrokePieces.FULL);
        Check.due("the row that is there", x.close(), 2000);
        Check.due("more than 2000 pieces", x.stroke(), StrokePieces.FULL);
        x.clear();
        x.move(0, 0);
        for (int i = 1; i < 3000; i++) {
            x.line(i, 0);
        }
        Check.due("a row", x.move(0, 0), StrokePieces.FULL);
        x.close();
        // One dash goes over all points and back to the first one: a run of one point more than there are.
        Check.due("sides of a run of 2001 points", x.stroke(), 2000);
    }

    private static void tooManyRows() {
        StrokePieces x = new StrokePieces();
        for (int i = 0; i < 3000; i++) {
            Check.due("a row", x.move(i, i), i < 2000 ? i + 1 : StrokePieces.FULL);
            Check.due("is closed", x.close(), Math.min(i + 1, 2000));
        }
        Check.due("points have no pieces", x.stroke(), 0);
    }
}
