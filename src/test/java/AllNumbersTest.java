/** Every number that may be told, where there are not too many: the class beside the model, whole ranges at once. */
public final class AllNumbersTest {
    private static final int[] POINTS = {0, 1, 4, 5, 6, 9, 10, 11, 20, 25, 34, 35, 39, 40};
    private static final int[] REACHES = {1, 5, 6, 10, 11, 15, 20, 25, 30, 39, 40};
    private static final int[][] CASES = {{0, 0}, {16, 0}, {0, 16}, {8, 8}, {4, 8}, {1, 1}, {3, 0}};
    private static final Checks C = new Checks("all numbers beside the model");

    /** A call to the class and to the model: the answers are alike. */
    private interface Call {
        long[] of(KerbBall ball, KerbModel model);
    }

    private final int[] kinds;
    private final int wet;
    private final KerbModel model = new KerbModel();
    private KerbBall ball;
    private int calls;

    private AllNumbersTest(int wet, int... kinds) {
        this.kinds = kinds;
        this.wet = wet;
        for (int kind : kinds) {
            model.stone(kind);
        }
        model.wet(wet);
        makeBall();
    }

    private void makeBall() {
        ball = Made.wetStreet(wet, kinds);
        calls = 0;
    }

    private void ask(String what, Call call) {
        calls++;
        if (calls > 400) {
            makeBall();
        }
        long[] answers = call.of(ball, model);
        if (answers[0] != answers[1]) {
            C.same(what, answers[0], answers[1]);
        } else {
            C.same("alike", 1, 1);
        }
    }

    private void askFraction(String what, Call call) {
        if (calls > 380) {
            makeBall();
        }
        ask(what, call);
        ask(what + ", above", (x, m) -> pair(x.part(0), m.part(0)));
        ask(what + ", below", (x, m) -> pair(x.part(1), m.part(1)));
    }

    private static long[] pair(long got, long due) {
        return new long[] {got, due};
    }

    public static void main(String[] args) {
        for (int kind = 0; kind <= 5; kind++) {
            for (int wet = 0; wet <= 3; wet++) {
                new AllNumbersTest(wet, kind).everyThrow();
            }
        }
        for (int kind = 0; kind < 216; kind++) {
            new AllNumbersTest(kind % 4, kind / 36, kind / 6 % 6, kind % 6).everyStone();
        }
        AllNumbersTest games = new AllNumbersTest(0);
        games.everyMiddle();
        games.everyCar();
        games.everyLot();
        games.everyDouble();
        games.everyPick();
        games.manyWins();
        C.end();
    }

    private void everyThrow() {
        for (int f = 1; f <= 9; f++) {
            for (int s = 0; s <= 9; s++) {
                everyAnswer(f, s);
            }
        }
    }

    private void everyAnswer(int f, int s) {
        String what = "kind " + kinds[0] + ", WET " + wet + ", f " + f + ", s " + s;
        ask(what + ": way", (x, m) -> pair(x.way(0, f, s), m.way(0, f, s)));
        ask(what + ": back", (x, m) -> pair(x.back(0, f, s), m.back(0, f, s)));
        ask(what + ": line", (x, m) -> pair(x.line(0, f, s), m.line(0, f, s)));
        for (int way = 0; way <= 3; way++) {
            int w = way;
            ask(what + ": odds " + w, (x, m) -> pair(x.odds(0, f, s, w), m.odds(0, f, s, w)));
        }
        for (int stand = 0; stand <= 20; stand++) {
            int y = stand;
            ask(what + ": points " + y, (x, m) -> pair(x.points(0, f, s, y), m.points(0, f, s, y)));
            ask(what + ": mean " + y, (x, m) -> pair(x.mean(0, f, s, y), m.mean(0, f, s, y)));
            for (int slip = 0; slip < 9; slip++) {
                int i = slip / 3 - 1;
                int j = slip % 3 - 1;
                ask(what + ": play " + y + ", " + i + ", " + j, (x, m) -> pair(x.play(0, f, s, y, i, j), m.play(0, f, s, y, i, j)));
            }
        }
        for (int yards = 0; yards <= 30; yards++) {
            int y = yards;
            // behind a refused one THE FRACTION of a new object is another
            if (model.judge(0, f, s, y) == 1) {
                askFraction(what + ": judge " + y, (x, m) -> pair(x.judge(0, f, s, y), m.judge(0, f, s, y)));
            } else {
                ask(what + ": judge " + y, (x, m) -> pair(x.judge(0, f, s, y), -3));
            }
        }
    }

    private void everyStone() {
        String what = "stones " + kinds[0] + kinds[1] + kinds[2] + ", WET " + wet;
        for (int stone = -1; stone <= 2; stone++) {
            int i = stone;
            for (int part = 0; part <= 4; part++) {
                int p = part;
                ask(what + ": best " + i + ", " + p, (x, m) -> pair(x.best(i, p), m.best(i, p)));
            }
            ask(what + ": worth " + i, (x, m) -> pair(x.worth(i), m.worth(i)));
            ask(what + ": sides " + i, (x, m) -> pair(x.sides(i), m.sides(i)));
        }
    }

    private void everyMiddle() {
        for (int cases = 0; cases <= 16; cases++) {
            int q = cases;
            for (int lost = 0; lost <= 6; lost++) {
                int r = lost;
                ask("stop " + q + ", " + r, (x, m) -> pair(x.stop(q, r), m.stop(q, r)));
                for (int hits = 0; hits <= 6; hits++) {
                    int h = hits;
                    askFraction("middle " + q + ", " + h + ", " + r, (x, m) -> pair(x.middle(q, h, r), m.middle(q, h, r)));
                }
            }
        }
    }

    private void everyCar() {
        for (int i = 0; i < 41 * 121; i++) {
            int k = i / 121;
            int c = i / 11 % 11;
            int v = i % 11;
            askFraction("cars " + k + ", " + c + ", " + v, (x, m) -> pair(x.cars(k, c, v), m.cars(k, c, v)));
        }
    }

    private void everyLot() {
        for (int i = 0; i < 144; i++) {
            int n = 1 + i / 12;
            int m = 1 + i % 12;
            for (int j = 0; j < (n + 1) * (m + 1); j++) {
                int a = j / (m + 1);
                int b = j % (m + 1);
                askFraction("lot " + n + ", " + a + ", " + m + ", " + b, (x, z) -> pair(x.lot(n, a, m, b), z.lot(n, a, m, b)));
            }
        }
    }

    private void everyDouble() {
        for (int i = 0; i < 21 * 9 * 289; i++) {
            int d = i / 289 / 9;
            int k = i / 289 % 9;
            int p = i / 17 % 17;
            int q = i % 17;
            askFraction("twofold " + d + ", " + k + ", " + p + ", " + q,
                    (x, m) -> pair(x.twofold(d, k, p, q), m.twofold(d, k, p, q)));
        }
    }

    private void everyPick() {
        for (int i = 0; i < 5 * 289 * 289; i++) {
            int d = i / 289 / 289;
            int p = i / 289 / 17 % 17;
            int q = i / 289 % 17;
            int r = i / 17 % 17;
            int u = i % 17;
            askFraction("both " + d + ", " + p + ", " + q + ", " + r + ", " + u,
                    (x, m) -> pair(x.both(d, p, q, r, u), m.both(d, p, q, r, u)));
        }
    }

    private void manyWins() {
        for (int a : POINTS) {
            for (int b : POINTS) {
                for (int t : REACHES) {
                    for (int i = 0; i < 9 * CASES.length; i++) {
                        int n = i % 9;
                        int c = CASES[i / 9][0];
                        int d = CASES[i / 9][1];
                        ask("wins " + a + ", " + b + ", " + t + ", " + n + ", " + c + ", " + d,
                                (x, m) -> pair(x.wins(a, b, t, n, c, d), m.wins(a, b, t, n, c, d)));
                    }
                }
            }
        }
    }
}
