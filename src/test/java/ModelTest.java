import java.util.Random;

/** Random runs of at most 512 calls, the same ones each time, answered by the class and by the model alike. */
final class ModelTest {
    private static final int[] EDGES = {536870912, -536870912, 536870911, -536870911, 536870913, -536870913,
        532676608, -532676608, 0, 1, -1, Integer.MAX_VALUE, Integer.MIN_VALUE};

    private final Random random;
    private final String name;
    private final StrokePieces real = new StrokePieces();
    private final Model model = new Model();
    private final int scale;
    private final boolean grid;
    private int calls = 0;

    private ModelTest(int seed) {
        random = new Random(seed);
        name = "seed " + seed;
        scale = new int[] {3, 12, 1000, 700000, 40000000, 536870912}[random.nextInt(6)];
        grid = random.nextBoolean();
    }

    public static void main(String[] args) {
        for (int seed = 0; seed < 700 && !Check.anyWrong(); seed++) {
            new ModelTest(seed).go();
        }
        Check.end();
    }

    private void due(String call, long got, long want) {
        calls++;
        Check.due(name + ", call " + calls + ": " + call, got, want);
    }

    private void go() {
        if (random.nextInt(4) != 0) {
            choosePen();
        }
        while (calls < 440) {
            switch (random.nextInt(12)) {
                case 0, 1 -> row();
                case 2 -> choosePen();
                case 3, 4 -> chooseDashes();
                case 5 -> oddCalls();
                case 6 -> {
                    if (random.nextInt(3) == 0) {
                        due("clear()", real.clear(), model.clear());
                    }
                }
                default -> strokeAndLook();
            }
        }
    }

    private int place() {
        if (random.nextInt(80) == 0) {
            return EDGES[random.nextInt(EDGES.length)];
        }
        if (grid) {
            return (random.nextInt(5) - 2) * (scale / 2);
        }
        return random.nextInt(2 * scale) - scale;
    }

    private void row() {
        int x = place();
        int y = place();
        due("move(" + x + ", " + y + ")", real.move(x, y), model.move(x, y));
        int points = random.nextInt(random.nextInt(8) == 0 ? 60 : 7);
        for (int i = 0; i < points && calls < 400; i++) {
            if (random.nextInt(5) != 0) {
                x = place();
                y = random.nextInt(4) == 0 ? y : place();
            }
            due("line(" + x + ", " + y + ")", real.line(x, y), model.line(x, y));
        }
        if (random.nextInt(2) == 0) {
            due("close()", real.close(), model.close());
        }
    }

    private void choosePen() {
        int[] halves = {1, 2, 3, 7, 100, 32768, 4194304, 1 + random.nextInt(4194304), 1 + random.nextInt(50)};
        int[] limits = {65536, 65537, 92681, 92682, 131072, 655360, 6553600, 65536 + random.nextInt(200000)};
        int half = halves[random.nextInt(halves.length)];
        int limit = limits[random.nextInt(limits.length)];
        int cap = random.nextInt(2);
        int join = random.nextInt(4) == 0 ? 1 : 0;
        due("pen(" + half + ", " + cap + ", " + join + ", " + limit + ")",
                real.pen(half, cap, join, limit) ? 1 : 0, model.pen(half, cap, join, limit) ? 1 : 0);
    }

    private void chooseDashes() {
        int n = random.nextInt(9);
        int most = Math.max(2, scale / (1 << random.nextInt(12)));
        for (int k = 0; k < n; k++) {
            int units = random.nextInt(4) == 0 ? 0 : random.nextInt(most);
            due("length(" + k + ", " + units + ")", real.length(k, units) ? 1 : 0, model.length(k, units) ? 1 : 0);
        }
        int offset = random.nextInt(3) == 0 ? 0 : random.nextInt((int) Math.min(536870912L, most * 5L) + 1);
        due("dashes(" + n + ", " + offset + ")", real.dashes(n, offset) ? 1 : 0, model.dashes(n, offset) ? 1 : 0);
    }

    private void oddCalls() {
        int a = EDGES[random.nextInt(EDGES.length)];
        int k = random.nextInt(12) - 2;
        due("length(" + k + ", " + a + ")", real.length(k, a) ? 1 : 0, model.length(k, a) ? 1 : 0);
        int half = random.nextBoolean() ? 5 : a;
        int cap = random.nextInt(4) - 1;
        int join = random.nextInt(4) - 1;
        int limit = random.nextBoolean() ? 70000 : a;
        due("pen(" + half + ", " + cap + ", " + join + ", " + limit + ")",
                real.pen(half, cap, join, limit) ? 1 : 0, model.pen(half, cap, join, limit) ? 1 : 0);
        due("line(" + k + ", " + k + ")", real.line(k, k), model.line(k, k));
        due("close()", real.close(), model.close());
    }

    private void strokeAndLook() {
        due("stroke()", real.stroke(), model.stroke());
        due("pieces()", real.pieces(), model.pieces());
        due("walked()", real.walked(), model.walked());
        int count = model.pieces();
        int looks = Math.min(5, count + 1);
        int from = random.nextInt(Math.max(1, count + 2 - looks));
        for (int i = from; i < from + looks && calls < 500; i++) {
            due("sort(" + i + ")", real.sort(i), model.sort(i));
            for (int k = 0; k < 4; k++) {
                due("corner(" + i + ", " + k + ", 0)", real.corner(i, k, 0), model.corner(i, k, 0));
                due("corner(" + i + ", " + k + ", 1)", real.corner(i, k, 1), model.corner(i, k, 1));
            }
        }
    }
}
