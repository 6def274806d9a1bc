import java.util.Random;

/**
 * Runs of calls drawn at random, on the class and on the model at once: every answer, digest and STATUS alike. Each run
 * has as many calls as the document allows on one object; of what comes behind them it promises nothing.
 */
public final class ModelTest {
    private static final int RUNS = 1800;
    private static final int CALLS = 512;
    // what everything() asks, and what a text that is told anew may cost: clear, 20 times type, read
    private static final int CALLS_OF_ALL = 4, CALLS_OF_TEXT = 22;
    private static final long[] NOT_ASKED = {};
    // play, undo or on, score, image, from
    private static final int[] PLAYING = {28, 29, 28, 30, 30, 31, 33, 34, 34};
    private static final String[] PIECES = {
        "stone ", "stone", "wet ", "wet", "0", "1", "3", "4", "5", "6", "9", "12", ";", "; ", " ;", " ", "  ", "x", "stones",
        "sto", "wett", "W", "#", "stone 0;", "stone 5;", "wet 3;", "wet2 ;", "  stone  4  ;  ", "stone1;wet1;"};

    private final Random random;
    private final KerbBall ball = new KerbBall();
    private final KerbModel model = new KerbModel();
    private final Checks checks;
    private final int boldness;
    private final boolean playsMostly;
    private int left = CALLS;

    private ModelTest(long seed, Checks checks) {
        this.random = new Random(seed);
        this.checks = checks;
        this.boldness = 1 + random.nextInt(60);
        this.playsMostly = random.nextInt(4) == 0;
    }

    public static void main(String[] args) {
        Checks checks = new Checks("runs beside the model");
        for (int run = 0; run < RUNS; run++) {
            new ModelTest(run, checks).go(run);
        }
        checks.end();
    }

    /** Mostly a number as told, seldom one beyond. */
    private int told(int low, int high) {
        if (random.nextInt(boldness + 8) == 0) {
            int[] odd = {low - 1, high + 1, -1, Integer.MAX_VALUE, Integer.MIN_VALUE, -2, 17, 100};
            return odd[random.nextInt(odd.length)];
        }
        return low + random.nextInt(high - low + 1);
    }

    private int aStone() {
        return told(0, Math.max(0, model.count(0) - 1));
    }

    /** Often near what strikes the edge, else any. */
    private int[] aThrow() {
        int f = told(1, 9);
        int s = told(0, 9);
        if (f >= 1 && f <= 9 && random.nextInt(3) > 0) {
            s = Math.max(0, Math.min(9, (9 + random.nextInt(11) - f) / 2));
        }
        return new int[] {aStone(), f, s, random.nextBoolean() ? told(0, 20) : Math.min(20, Math.max(0, f + s - 3 + random.nextInt(7)))};
    }

    private void go(int run) {
        while (left > CALLS_OF_ALL) {
            int method = playsMostly && random.nextInt(4) > 0 ? PLAYING[random.nextInt(PLAYING.length)] : random.nextInt(36);
            long[] answers = answers(method);
            String where = "run " + run + ", " + left + " calls left, method " + method;
            if (answers != NOT_ASKED) {
                checks.same(where, answers[0], answers[1]);
            }
            if (random.nextInt(9) == 0 && left >= 2 * CALLS_OF_ALL) {
                everything(where);
            }
        }
        everything("run " + run + ", its last calls");
        checks.same("run " + run + ": calls left", left, 0);
    }

    private void everything(String where) {
        left -= CALLS_OF_ALL;
        checks.same(where + ", digest", ball.digest(), model.digest());
        for (int what = 0; what <= 2; what++) {
            checks.same(where + ", status " + what, ball.status(what), model.status(what));
        }
    }

    private long[] answers(int method) {
        if (method < 10) {
            return street(method);
        }
        if (method < 24) {
            return games(method);
        }
        return playing(method);
    }

    /** One call: what it answered, and what is due. */
    private long[] pair(long got, long due) {
        left--;
        return new long[] {got, due};
    }

    private void typePieces() {
        StringBuilder b = new StringBuilder();
        int many = 1 + random.nextInt(12);
        boolean good = random.nextInt(3) > 0;
        for (int i = 0; i < many; i++) {
            if (good) {
                b.append(random.nextInt(4) == 0 ? "wet" : "stone").append(random.nextBoolean() ? " " : "")
                        .append(random.nextInt(random.nextInt(6) == 0 ? 7 : 4)).append(random.nextInt(5) == 0 ? " ;" : ";");
            } else {
                b.append(PIECES[random.nextInt(PIECES.length)]);
            }
        }
        left--;
        checks.same("clear", ball.clear(), model.clear());
        for (int i = 0; i < b.length(); i += 8) {
            long v = random.nextLong();
            int n = Math.min(8, b.length() - i);
            for (int j = i; j < i + n; j++) {
                v = (v << 8) | b.charAt(j);
            }
            left--;
            checks.same("type", ball.type(v, n), model.type(v, n));
        }
    }

    private long[] street(int method) {
        int[] t = aThrow();
        switch (method) {
            case 0: {
                int kind = told(0, 5);
                return pair(ball.stone(kind), model.stone(kind));
            }
            case 1: {
                int n = told(0, 3);
                return pair(ball.wet(n), model.wet(n));
            }
            case 2: {
                long v = random.nextLong();
                int n = told(1, 8);
                return pair(ball.type(v, n), model.type(v, n));
            }
            case 3:
                return random.nextInt(4) == 0 ? pair(ball.clear(), model.clear()) : NOT_ASKED;
            case 4: {
                if (random.nextInt(4) > 0 || left < CALLS_OF_TEXT + CALLS_OF_ALL) {
                    return NOT_ASKED;
                }
                typePieces();
                return pair(ball.read(), model.read());
            }
            case 5:
                return pair(ball.way(t[0], t[1], t[2]), model.way(t[0], t[1], t[2]));
            case 6:
                return pair(ball.back(t[0], t[1], t[2]), model.back(t[0], t[1], t[2]));
            case 7:
                return pair(ball.points(t[0], t[1], t[2], t[3]), model.points(t[0], t[1], t[2], t[3]));
            case 8: {
                int way = told(0, 3);
                return pair(ball.odds(t[0], t[1], t[2], way), model.odds(t[0], t[1], t[2], way));
            }
            default:
                return pair(ball.mean(t[0], t[1], t[2], t[3]), model.mean(t[0], t[1], t[2], t[3]));
        }
    }

    private long[] games(int method) {
        int[] t = aThrow();
        int p = told(0, 16);
        int q = told(0, 16);
        switch (method) {
            case 10: {
                int stone = random.nextBoolean() ? -1 : aStone();
                int what = told(0, 4);
                return pair(ball.best(stone, what), model.best(stone, what));
            }
            case 11:
                return pair(ball.line(t[0], t[1], t[2]), model.line(t[0], t[1], t[2]));
            case 12: {
                int m = told(0, 6);
                int r = told(0, 6);
                return pair(ball.middle(p, m, r), model.middle(p, m, r));
            }
            case 13: {
                int r = told(0, 6);
                return pair(ball.stop(p, r), model.stop(p, r));
            }
            case 14: {
                int a = told(0, 40);
                int b = told(0, 40);
                int reach = random.nextBoolean() ? told(1, 40) : Math.max(1, Math.min(40, Math.max(a, b) + random.nextInt(25) - 2));
                int n = told(0, 8);
                int d = random.nextInt(8) == 0 ? q : p >= 0 && p <= 16 ? told(0, 16 - p) : q;
                return pair(ball.wins(a, b, reach, n, p, d), model.wins(a, b, reach, n, p, d));
            }
            case 15: {
                int d = random.nextBoolean() ? told(0, 20) : told(0, 6);
                int k = told(0, 6 + random.nextInt(3));
                return pair(ball.twofold(d, k, p, q), model.twofold(d, k, p, q));
            }
            case 16: {
                int k = told(0, 40);
                int c = told(0, 10);
                int v = told(0, 10);
                return pair(ball.cars(k, c, v), model.cars(k, c, v));
            }
            case 17: {
                int yards = random.nextInt(4) == 0 ? told(0, 30) : told(0, 15);
                return pair(ball.judge(t[0], t[1], t[2], yards), model.judge(t[0], t[1], t[2], yards));
            }
            case 18: {
                int n = random.nextInt(40) == 0 ? told(1, 12) : told(1, 5);
                int m = random.nextInt(40) == 0 ? told(1, 12) : told(1, 5);
                int a = told(0, Math.max(0, Math.min(12, n)));
                int b = told(0, Math.max(0, Math.min(12, m)));
                return pair(ball.lot(n, a, m, b), model.lot(n, a, m, b));
            }
            case 19:
            case 20: {
                int d = random.nextBoolean() ? told(0, 4) : 0;
                int r = told(0, 16);
                int u = told(0, 16);
                return pair(ball.both(d, p, q, r, u), model.both(d, p, q, r, u));
            }
            case 21: {
                int c = told(1, Math.max(1, model.count(0) - 1));
                return pair(ball.sides(c), model.sides(c));
            }
            case 22: {
                int stone = aStone();
                return pair(ball.worth(stone), model.worth(stone));
            }
            default: {
                int stone = random.nextInt(10) == 0 ? told(0, 7) : t[0];
                int slips = told(0, 8);
                int points = random.nextInt(12) == 0 ? told(0, 10) : 5 * random.nextInt(3);
                return pair(ball.write(stone, t[1], t[2], t[3], slips, points),
                        model.write(stone, t[1], t[2], t[3], slips, points));
            }
        }
    }

    private long[] playing(int method) {
        int[] t = aThrow();
        int i = told(0, 1);
        switch (method) {
            case 24:
                return random.nextInt(6) == 0 ? pair(ball.tear(), model.tear()) : NOT_ASKED;
            case 25:
                return pair(ball.book(i), model.book(i));
            case 26: {
                int k = told(1, 12);
                return pair(ball.hours(k), model.hours(k));
            }
            case 27: {
                int n = told(0, 60);
                int seed = told(0, 999999);
                return pair(ball.evening(t[0], t[1], t[2], t[3], n, seed),
                        model.evening(t[0], t[1], t[2], t[3], n, seed));
            }
            case 28:
            case 29: {
                int slipF = told(-1, 1);
                int slipS = told(-1, 1);
                return pair(ball.play(t[0], t[1], t[2], t[3], slipF, slipS),
                        model.play(t[0], t[1], t[2], t[3], slipF, slipS));
            }
            case 30:
                return random.nextInt(3) == 0 ? pair(ball.undo(), model.undo()) : pair(ball.on(), model.on());
            case 31:
                return pair(ball.score(i), model.score(i));
            case 32:
                return pair(ball.part(i), model.part(i));
            case 33:
                return pair(ball.image(i), model.image(i));
            case 34:
                return random.nextInt(3) == 0 ? pair(ball.from(i), model.from(i)) : NOT_ASKED;
            default: {
                int what = told(0, 4);
                return random.nextInt(4) == 0 ? pair(ball.status(what), model.status(what))
                        : pair(ball.count(what), model.count(what));
            }
        }
    }
}
