import java.io.IOException;
import java.util.function.IntBinaryOperator;

/**
 * The sentences that tell a sum or an answer, each held against the cases themselves: all cases of 16 one by one, all
 * plans, all deals. Those that name a bound have theirs in the tests of bounds.
 */
public final class WordsTest {
    private static final int SHARP = 0, ROUND = 1, DOWN = 2, WORN = 3, HIGH = 4;
    private static final int[] SLIPS = {-1, 0, 0, 1};
    private static Sentences doc;

    public static void main(String[] args) throws IOException {
        doc = new Sentences("sentences of sums and answers");
        street();
        throwsAtStones();
        bestThrows();
        middle();
        wins();
        doubles();
        chances();
        both();
        sides();
        theBook();
        evenings();
        playing();
        whatThereIs();
        doc.end();
    }

    // ---- the told sums once more, kind by kind under the one told

    private static int low(int kind) {
        return kind == SHARP ? 14 : kind == ROUND ? low(SHARP) : kind == DOWN ? low(ROUND) - 4 : kind == WORN ? low(ROUND) - 1
                : kind == HIGH ? low(SHARP) + 3 : low(DOWN);
    }

    private static int high(int kind) {
        return kind == SHARP ? 16 : kind == ROUND ? high(SHARP) - 1 : kind == DOWN ? high(ROUND) - 4 : kind == WORN ? high(ROUND)
                : kind == HIGH ? high(SHARP) + 3 : high(DOWN);
    }

    private static int yards(int kind, int f, int s) {
        return kind == SHARP ? f + s : kind == ROUND ? yards(SHARP, f, s) - 2 : kind == DOWN ? yards(ROUND, f, s)
                : kind == WORN ? yards(ROUND, f, s) / 2 : kind == HIGH ? yards(SHARP, f, s) + 1 : yards(DOWN, f, s) + 2;
    }

    private static int wayOf(int kind, int wet, int f, int s) {
        int height = s + s + f - wet;
        return f - wet < 2 ? 0 : height < low(kind) ? 1 : height > high(kind) ? 3 : 2;
    }

    private static int backOf(int kind, int wet, int f, int s) {
        int way = wayOf(kind, wet, f, s);
        return way == 1 ? f / 2 : way == 2 ? yards(kind, f, s) : 0;
    }

    private static int pointsOf(int kind, int wet, int f, int s, int y) {
        int back = backOf(kind, wet, f, s);
        boolean edge = wayOf(kind, wet, f, s) == 2;
        return edge && back >= y - 1 && back <= y + 1 ? 10 : edge && back < y - 1 && back >= y - 4 ? 5 : 0;
    }

    private static int of16(IntBinaryOperator of) {
        int sum = 0;
        for (int slipF : SLIPS) {
            for (int slipS : SLIPS) {
                sum += of.applyAsInt(slipF, slipS);
            }
        }
        return sum;
    }

    private static KerbBall allKinds(int wet) {
        return Made.wetStreet(wet, 0, 1, 2, 3, 4, 5);
    }

    /** The fraction is top by bottom, in lowest terms, below above 0. */
    private static void fraction(String what, KerbBall x, long top, long bottom) {
        long above = x.part(0);
        long below = x.part(1);
        doc.same(what + ": " + above + " by " + below + " is " + top + " by " + bottom, above * bottom, top * below);
        doc.checks.isTrue(doc.of(what + ": lowest terms"), below > 0 && common(Math.abs(above), below) == 1);
    }

    private static long common(long a, long b) {
        return b == 0 ? a : common(b, a % b);
    }

    // ---- 1 STONES

    private static void street() {
        doc.says("WET: what it was. BAD.", () -> {
            KerbBall x = new KerbBall();
            int was = 0;
            for (int i = 0; i < 100; i++) {
                int n = i * 7 % 11;
                doc.same("wet " + n, x.wet(n), n <= 3 ? was : -2);
                was = n <= 3 ? n : was;
            }
        });
    }

    private interface OfThrow {
        void at(KerbBall x, int wet, int kind, int f, int s);
    }

    /** Each THROW that may be told, at each kind, by each WET; no object is asked more than 512 times. */
    private static void eachThrow(OfThrow test) {
        for (int wet = 0; wet <= 3; wet++) {
            for (int kind = 0; kind <= 5; kind++) {
                for (int f = 1; f <= 9; f++) {
                    KerbBall x = allKinds(wet);
                    for (int s = 0; s <= 9; s++) {
                        test.at(x, wet, kind, f, s);
                    }
                }
            }
        }
    }

    private static void throwsAtStones() {
        doc.says("By KINDS, each under the one told: what HEIGHTS strike the EDGE (from a low one to a high one), and how many YARDS "
                + "it comes BACK from the EDGE:", () -> eachThrow((x, wet, kind, f, s) -> {
                    boolean edge = f - wet >= 2 && 2 * s + f - wet >= low(kind) && 2 * s + f - wet <= high(kind);
                    doc.same(kind + " " + f + " " + s + " wet " + wet, x.way(kind, f, s) == 2 ? 1 : 0, edge ? 1 : 0);
                    if (edge) {
                        doc.same("back " + kind + " " + f + " " + s, x.back(kind, f, s), yards(kind, f, s));
                    }
                }));
        doc.says("else it strikes the EDGE, or the FRONT below it", () -> eachThrow((x, wet, kind, f, s) ->
                doc.checks.isTrue(doc.of("one of them if not SHORT, else none"), f - wet < 2 == (x.way(kind, f, s) == 0))));
        doc.says("The WAY of a THROW without SLIPS. BAD.", () -> eachThrow((x, wet, kind, f, s) ->
                doc.same(kind + " " + f + " " + s + " wet " + wet, x.way(kind, f, s), wayOf(kind, wet, f, s))));
        doc.says("YARDS that it comes BACK (TOP, SHORT: 0). BAD.", () -> eachThrow((x, wet, kind, f, s) ->
                doc.same(kind + " " + f + " " + s + " wet " + wet, x.back(kind, f, s), backOf(kind, wet, f, s))));
        doc.says("Points of a THROW without SLIPS with a STAND. BAD.", () -> eachThrow((x, wet, kind, f, s) -> {
            for (int y = 0; y <= 20; y++) {
                doc.same(kind + " " + f + " " + s + " " + y, x.points(kind, f, s, y), pointsOf(kind, wet, f, s, y));
            }
        }));
        doc.says("2 ODDS of a THROW: of 16 by SLIPS how many are a WAY;", WordsTest::odds);
        doc.says("ODDS of a WAY, of 16. BAD.", WordsTest::odds);
        doc.says("POINTS of all 16. BAD.", () -> eachThrow((x, wet, kind, f, s) -> {
            for (int y = 0; y <= 20; y++) {
                int stand = y;
                doc.same(kind + " " + f + " " + s + " " + y, x.mean(kind, f, s, y),
                        of16((i, j) -> pointsOf(kind, wet, f + i, s + j, stand)));
            }
        }));
    }

    private static void odds() {
        eachThrow((x, wet, kind, f, s) -> {
            for (int way = 0; way <= 3; way++) {
                int w = way;
                doc.same(kind + " " + f + " " + s + " way " + way, x.odds(kind, f, s, way),
                        of16((i, j) -> wayOf(kind, wet, f + i, s + j) == w ? 1 : 0));
            }
        });
    }

    private static void bestThrows() {
        doc.says("BEST of a STONE (NONE: of all): POINTS (what = 0), the STONE (1), f (2), s (3), STAND (4).", () -> {
            int[][] streets = {{0, 1, 2, 3, 4, 5}, {5, 4, 3, 2, 1, 0}, {4, 4, 1}, {1, 0, 0}, {2}, {1, 5, 1, 2, 4, 4, 1, 5}};
            for (int[] street : streets) {
                for (int wet = 0; wet <= 3; wet++) {
                    KerbBall x = Made.wetStreet(wet, street);
                    for (int stone = -1; stone < street.length; stone++) {
                        int[] due = firstBest(street, wet, Math.max(0, stone), stone < 0 ? street.length : stone + 1);
                        for (int what = 0; what <= 4; what++) {
                            doc.same("stone " + stone + ", what " + what + ", wet " + wet, x.best(stone, what), due[what]);
                        }
                    }
                }
            }
        });
        doc.says("LINE, as bits (STANDS 0 to 20). BAD.", () -> eachThrow((x, wet, kind, f, s) -> {
            int bits = x.line(kind, f, s);
            doc.same("no bit beyond 20", bits >>> 21, 0);
            int most = 0;
            for (int y = 0; y <= 20; y++) {
                most = Math.max(most, meanOf(kind, wet, f, s, y));
            }
            for (int y = 0; y <= 20; y++) {
                doc.same("bit " + y, bits >> y & 1, meanOf(kind, wet, f, s, y) == most ? 1 : 0);
            }
        }));
    }

    private static int meanOf(int kind, int wet, int f, int s, int y) {
        return of16((i, j) -> pointsOf(kind, wet, f + i, s + j, y));
    }

    private static int[] firstBest(int[] street, int wet, int first, int end) {
        int[] best = {-1, 0, 0, 0, 0};
        for (int stone = first; stone < end; stone++) {
            for (int f = 1; f <= 9; f++) {
                for (int s = 0; s <= 9; s++) {
                    for (int y = 0; y <= 20; y++) {
                        int sum = meanOf(street[stone], wet, f, s, y);
                        best = sum > best[0] ? new int[] {sum, stone, f, s, y} : best;
                    }
                }
            }
        }
        return best;
    }

    // ---- 2: the middle, wins, the double

    private static void middle() {
        doc.says("THE MIDDLE: from there a hit is 1 point", WordsTest::allMiddles);
        doc.says("The mean of what he has then: THE FRACTION.", WordsTest::allMiddles);
        doc.says("THE MIDDLE is THE FRACTION: 1. BAD.", () -> {
            KerbBall x = new KerbBall();
            doc.same("middle", x.middle(4, 2, 0), 1);
            // a quarter of all has one hit at least, a 16th two
            fraction("4 of 16, 2 hits", x, 5, 16);
        });
        doc.says("STOP. BAD.", () -> {
            for (int q = 0; q <= 16; q++) {
                for (int r = 0; r <= 6; r++) {
                    doc.same("q " + q + ", r " + r, new KerbBall().stop(q, r), leastStop(q, r));
                }
            }
        });
    }

    /** All cases, of 16 to the m, one by one. */
    private static void allMiddles() {
        for (int m = 0; m <= 3; m++) {
            for (int q = 0; q <= 16; q++) {
                for (int r = 0; r <= 6; r++) {
                    KerbBall x = new KerbBall();
                    doc.same("middle", x.middle(q, m, r), 1);
                    long sum = 0;
                    for (int cases = 0; cases < 1 << 4 * m; cases++) {
                        sum += hasThen(cases, q, m, r);
                    }
                    fraction("q " + q + ", m " + m + ", r " + r, x, sum, 1L << 4 * m);
                }
            }
        }
    }

    private static int hasThen(int cases, int q, int m, int r) {
        for (int hits = 0; hits < m; hits++) {
            if ((cases >> 4 * hits & 15) >= q) {
                return hits - Math.min(r, hits);
            }
        }
        return m;
    }

    private static int leastStop(int q, int r) {
        KerbBall x = new KerbBall();
        int found = 0;
        long above = 0;
        long below = 1;
        for (int m = 1; m <= 6; m++) {
            x.middle(q, m, r);
            if (x.part(0) * below > above * x.part(1)) {
                found = m;
                above = x.part(0);
                below = x.part(1);
            }
        }
        return found;
    }

    private static void wins() {
        doc.says("WINS: two have a, b points", WordsTest::allWins);
        doc.says("a throw in each: 10 in c of 16 cases, 5 in d of 16 (c and d no more than 16 together), none else.",
                WordsTest::allWins);
        doc.says("WINS: cases. BAD: -100.", () -> {
            doc.same("none of none", new KerbBall().wins(0, 0, 1, 0, 16, 0), 0);
            doc.same("16 to the 8", new KerbBall().wins(1, 0, 1, 8, 0, 0), 4294967296L);
            doc.same("BAD", new KerbBall().wins(0, 0, 1, 9, 0, 0), -100);
        });
    }

    /** All cases, of 16 to the n, one by one, the turns of both in each. */
    private static void allWins() {
        int[][] ab = {{0, 0}, {5, 0}, {0, 5}, {15, 20}, {20, 15}, {40, 40}, {7, 3}};
        int[] reach = {1, 5, 10, 15, 16, 21, 25, 40};
        int[][] cd = {{4, 8}, {0, 16}, {16, 0}, {1, 1}, {0, 0}, {7, 3}, {0, 5}};
        for (int n = 0; n <= 4; n++) {
            for (int[] p : ab) {
                for (int t : reach) {
                    for (int[] c : cd) {
                        boolean many = n < 4 || p[0] + p[1] + t + c[0] < 40;
                        if (many) {
                            doc.same(p[0] + " " + p[1] + " to " + t + ", " + n + " turns, " + c[0] + " " + c[1],
                                    new KerbBall().wins(p[0], p[1], t, n, c[0], c[1]), winsOf(p, t, n, c[0], c[1]));
                        }
                    }
                }
            }
        }
    }

    private static long winsOf(int[] begin, int t, int n, int c, int d) {
        long sum = 0;
        for (int cases = 0; cases < 1 << 4 * n; cases++) {
            int[] p = begin.clone();
            int winner = p[0] >= t ? 0 : p[1] >= t ? 1 : -1;
            for (int turn = 0; turn < n && winner < 0; turn++) {
                int drawn = cases >> 4 * turn & 15;
                p[turn % 2] += drawn < c ? 10 : drawn < c + d ? 5 : 0;
                winner = p[turn % 2] >= t ? turn % 2 : -1;
            }
            sum += winner == 0 ? 1 : 0;
        }
        return sum;
    }

    private static void doubles() {
        doc.says("DOUBLE: he is d points behind", WordsTest::allPlans);
        doc.says("each is a plain one (1 point in p of 16) or a double (2 points in q of 16):", WordsTest::allPlans);
        doc.says("to make d points or more, if he chooses each time by what was: THE FRACTION; whether the first is to be a double "
                + "(of like ones", WordsTest::allPlans);
        doc.says("DOUBLE is THE FRACTION: whether the first is to be a double (0, 1). BAD.", () -> {
            KerbBall x = new KerbBall();
            doc.same("a double", x.twofold(2, 1, 16, 1), 1);
            fraction("one of 16", x, 1, 16);
            doc.same("a plain one", x.twofold(1, 1, 16, 16), 0);
            fraction("sure", x, 1, 1);
        });
    }

    /** All plans of three throws at most: a bit for each thing that may have been, as the throw that he chooses then. */
    private static void allPlans() {
        for (int k = 0; k <= 3; k++) {
            for (int d = 0; d <= 7; d++) {
                for (int p = 0; p <= 16; p += 2) {
                    for (int q = p % 4; q <= 16; q += 3) {
                        KerbBall x = new KerbBall();
                        long plain = mostOfPlans(d, k, p, q, 0);
                        long twice = k == 0 ? 0 : mostOfPlans(d, k, p, q, 1);
                        String what = "d " + d + ", k " + k + ", p " + p + ", q " + q;
                        doc.same(what, x.twofold(d, k, p, q), twice > plain ? 1 : 0);
                        fraction(what, x, Math.max(plain, twice), 1L << 4 * k);
                    }
                }
            }
        }
    }

    private static long mostOfPlans(int d, int k, int p, int q, int first) {
        long most = 0;
        int plans = 1 << (1 << k) - 1;
        for (int plan = first; plan < plans; plan += 2) {
            long sum = 0;
            for (int hits = 0; hits < 1 << k; hits++) {
                sum += casesOf(plan, hits, d, k, p, q);
            }
            most = Math.max(most, sum);
        }
        return most;
    }

    /** The cases in which his throws hit and miss just so, if they're enough; the throw's place in the plan is by what was. */
    private static long casesOf(int plan, int hits, int d, int k, int p, int q) {
        long cases = 1;
        int points = 0;
        int place = 0;
        for (int i = 0; i < k; i++) {
            boolean twice = (plan >> place & 1) == 1;
            boolean hit = (hits >> i & 1) == 1;
            int of = twice ? q : p;
            cases *= hit ? of : 16 - of;
            points += hit ? (twice ? 2 : 1) : 0;
            place = 2 * place + (hit ? 2 : 1);
        }
        return points >= d ? cases : 0;
    }

    // ---- 3: cars, judged, lots, both

    private static void chances() {
        doc.says("3 CARS: in each of k throws", WordsTest::allCars);
        doc.says("he in v of 10: the mean of his: THE FRACTION.", WordsTest::allCars);
        doc.says("CARS are THE FRACTION: 1. BAD.", () -> {
            KerbBall x = new KerbBall();
            doc.same("cars", x.cars(40, 10, 10), 1);
            fraction("all of them his", x, 40, 1);
        });
        doc.says("EDGE BY BACK: a THROW with SLIPS came BACK just so many YARDS:", WordsTest::allJudged);
        doc.says("EDGE BY BACK is THE FRACTION: 1.", WordsTest::allJudged);
        doc.says("BY LOT: of n throws with one ball", WordsTest::allDeals);
        doc.says("of all ways to deal that many hits to all those throws,", WordsTest::allDeals);
        doc.says("BY LOT is THE FRACTION: 1.", () -> {
            KerbBall x = new KerbBall();
            doc.same("lot", x.lot(1, 1, 1, 0), 1);
            fraction("one hit of two throws", x, 1, 2);
        });
    }

    private static void allCars() {
        for (int k = 0; k <= 40; k++) {
            for (int c = 0; c <= 10; c++) {
                KerbBall x = new KerbBall();
                for (int v = 0; v <= 10; v++) {
                    int his = 0;
                    for (int drawn = 0; drawn < 100; drawn++) {
                        his += drawn / 10 < c && drawn % 10 < v ? 1 : 0;
                    }
                    doc.same("cars", x.cars(k, c, v), 1);
                    fraction("k " + k + ", c " + c + ", v " + v, x, (long) k * his, 100);
                }
            }
        }
    }

    private static void allJudged() {
        eachThrow((x, wet, kind, f, s) -> {
            for (int yards = s % 2; yards <= 30; yards += 2) {
                int y = yards;
                int so = of16((i, j) -> backOf(kind, wet, f + i, s + j) == y ? 1 : 0);
                int edges = of16((i, j) -> wayOf(kind, wet, f + i, s + j) == 2 && backOf(kind, wet, f + i, s + j) == y ? 1 : 0);
                String what = kind + " " + f + " " + s + ", yards " + y + ", wet " + wet;
                doc.same(what, x.judge(kind, f, s, y), so == 0 ? -3 : 1);
                if (so > 0) {
                    fraction(what, x, edges, so);
                }
            }
        });
    }

    /** A bit for each throw, the first ball's the lowest ones. */
    private static void allDeals() {
        for (int n = 1; n <= 5; n++) {
            for (int m = 1; m <= 5; m++) {
                for (int a = 0; a <= n; a++) {
                    KerbBall x = new KerbBall();
                    for (int b = 0; b <= m; b++) {
                        int all = 0;
                        int enough = 0;
                        for (int deal = 0; deal < 1 << n + m; deal++) {
                            boolean so = Integer.bitCount(deal) == a + b;
                            all += so ? 1 : 0;
                            enough += so && Integer.bitCount(deal & (1 << n) - 1) >= a ? 1 : 0;
                        }
                        doc.same("lot", x.lot(n, a, m, b), 1);
                        fraction(a + " of " + n + ", " + b + " of " + m, x, enough, all);
                    }
                }
            }
        }
    }

    private static void both() {
        doc.says("BOTH: he is d points behind", WordsTest::allPicks);
        doc.says("each of the two picks a plain throw (1 point in p of 16 his, in r of 16 the other one's) or a double (2 points in q, "
                + "in u of 16), neither knowing the other one's:", WordsTest::allPicks);
        doc.says("BOTH is THE FRACTION: how many pairs rest. BAD.", () -> {
            KerbBall x = new KerbBall();
            doc.same("all alike", x.both(0, 0, 0, 0, 0), 4);
            fraction("nothing is hit", x, 1, 1);
        });
    }

    private static void allPicks() {
        for (int d = 0; d <= 4; d++) {
            for (int p = 0; p <= 16; p += 4) {
                for (int q = 0; q <= 16; q += 3) {
                    for (int r = 0; r <= 16; r += 4) {
                        for (int u = 1; u <= 16; u += 5) {
                            picks(d, p, q, r, u);
                        }
                    }
                }
            }
        }
    }

    /** He can be sure of it by a lot of his, and no lot of his does better, as the other one has a lot that keeps him there. */
    private static void picks(int d, int p, int q, int r, int u) {
        int[][] level = {{levelOf(d, 1, p, 1, r), levelOf(d, 1, p, 2, u)}, {levelOf(d, 2, q, 1, r), levelOf(d, 2, q, 2, u)}};
        KerbBall x = new KerbBall();
        int rest = 0;
        for (int his = 0; his <= 1; his++) {
            for (int others = 0; others <= 1; others++) {
                boolean better = level[1 - his][others] > level[his][others] || level[his][1 - others] < level[his][others];
                rest += better ? 0 : 1;
            }
        }
        String what = d + ": " + p + " " + q + " " + r + " " + u;
        doc.same(what, x.both(d, p, q, r, u), rest);
        long above = x.part(0);
        long below = x.part(1);
        doc.checks.isTrue(doc.of(what + ": lowest terms"), below > 0 && common(above, below) == 1);
        long lots = Math.max(1, Math.abs(level[0][0] - level[0][1] - level[1][0] + level[1][1]));
        boolean sure = false;
        boolean kept = false;
        for (long lot = 0; lot <= lots; lot++) {
            long rest0 = lots - lot;
            long least = Math.min(rest0 * level[0][0] + lot * level[1][0], rest0 * level[0][1] + lot * level[1][1]);
            long most = Math.max(rest0 * level[0][0] + lot * level[0][1], rest0 * level[1][0] + lot * level[1][1]);
            sure |= least * below >= above * 256 * lots;
            kept |= most * below <= above * 256 * lots;
        }
        doc.checks.isTrue(doc.of(what + ": he can be sure of " + above + " by " + below), sure);
        doc.checks.isTrue(doc.of(what + ": of no more than " + above + " by " + below), kept);
    }

    private static int levelOf(int d, int his, int hisCases, int others, int othersCases) {
        int sum = 0;
        for (int cases = 0; cases < 256; cases++) {
            int points = cases / 16 < hisCases ? his : 0;
            int otherPoints = cases % 16 < othersCases ? others : 0;
            sum += d + otherPoints - points <= 0 ? 1 : 0;
        }
        return sum;
    }

    // ---- sides, worth, the book, evenings

    private static void sides() {
        doc.says("POINTS of the BEST of STONES 0 to c less 1, less those of the BEST of the others.", WordsTest::allSides);
        doc.says("SIDES. BAD: -1000.", WordsTest::allSides);
        doc.says("WORTH of a STONE: by how much POINTS of the BEST of all are less without it", WordsTest::allSides);
    }

    private static void allSides() {
        int[][] streets = {{1, 0, 2}, {1, 3, 2, 4, 5, 0, 1, 2}, {1, 1}, {4}, {1, 2, 4}, {2, 1, 2, 1, 0}};
        for (int[] street : streets) {
            for (int wet = 0; wet <= 3; wet++) {
                KerbBall x = Made.wetStreet(wet, street);
                int[] points = new int[street.length];
                for (int i = 0; i < street.length; i++) {
                    points[i] = x.best(i, 0);
                }
                for (int c = 0; c <= street.length; c++) {
                    boolean told = c >= 1 && c <= street.length - 1;
                    doc.same("sides " + c, x.sides(c),
                            told ? most(points, 0, c, -1) - most(points, c, street.length, -1) : -1000);
                }
                for (int i = 0; i < street.length; i++) {
                    doc.same("worth " + i, x.worth(i), most(points, 0, street.length, -1) - most(points, 0, street.length, i));
                }
            }
        }
    }

    private static int most(int[] points, int first, int end, int without) {
        int most = 0;
        for (int i = first; i < end; i++) {
            most = i == without ? most : Math.max(most, points[i]);
        }
        return most;
    }

    private static void theBook() {
        doc.says("A THROW is written behind THE BOOK: how many there are.", () -> {
            KerbBall x = new KerbBall();
            for (int i = 1; i <= 12; i++) {
                doc.same("write", x.write(0, 5, 5, 10, 4, i % 3 * 5), i);
                // behind: the last one of rows of i is 0's, 5's or 10's, and the first row stays where it is
                doc.same("told", x.book(1), i / 3 * 15 + (i % 3 == 0 ? 0 : i % 3 == 1 ? 5 : 15));
                doc.same("one row of all", x.hours(i), 0);
            }
        });
        doc.says("WRONG: the first of which the points are not so", WordsTest::firstWrong);
        doc.says("TOLD: points of all together.", WordsTest::firstWrong);
        doc.says("THE BOOK: up to 12 THROWS", WordsTest::firstWrong);
        doc.says("HOURS: rows of so many THROWS", WordsTest::allRows);
    }

    /** A book of THROWS with their own points, one of them told wrong: each of the twelve once. */
    private static void firstWrong() {
        for (int wrong = -1; wrong < 12; wrong++) {
            KerbBall x = Made.wetStreet(1, 0, 1, 2, 3, 4, 5);
            int told = 0;
            for (int i = 0; i < 12; i++) {
                int kind = i % 6;
                int f = 3 + i % 5;
                int s = (low(kind) + 3 - f) / 2;
                int slips = i * 5 % 9;
                int y = yards(kind, f, s) % 21;
                int points = pointsOf(kind, 1, f + slips / 3 - 1, s + slips % 3 - 1, y);
                points = i == wrong ? (points + 5) % 15 : points;
                told += points;
                x.write(kind, f, s, y, slips, points);
            }
            doc.same("wrong", x.book(0), wrong);
            doc.same("told", x.book(1), told);
        }
    }

    private static void allRows() {
        for (int drawn = 0; drawn < 60; drawn++) {
            KerbBall x = new KerbBall();
            int many = drawn % 13;
            int[] points = new int[many];
            for (int i = 0; i < many; i++) {
                points[i] = (drawn * 7 + i * i * (drawn % 5 + 1)) % 3 * 5;
                x.write(0, 5, 5, 5, 4, points[i]);
            }
            for (int k = 1; k <= 12; k++) {
                int found = -1;
                int most = -1;
                for (int first = 0; first + k <= many; first++) {
                    int sum = 0;
                    for (int i = first; i < first + k; i++) {
                        sum += points[i];
                    }
                    found = sum > most ? first : found;
                    most = Math.max(sum, most);
                }
                doc.same(many + " throws, rows of " + k, x.hours(k), found);
            }
        }
    }

    private static void evenings() {
        doc.says("for each X becomes X times 1103515245 and 12345, by 2147483648 what is left over; X by 65536 (cut), by 16 left over, "
                + "is the case:", WordsTest::eveningsAsPlays);
        doc.says("AN EVENING: points. BAD.", WordsTest::eveningsAsPlays);
    }

    /** What an evening gives is what its THROWS give if they are played one by one with the SLIPS that it drew. */
    private static void eveningsAsPlays() {
        int[][] rows = {{0, 5, 5, 10}, {1, 4, 5, 8}, {2, 9, 0, 7}, {3, 5, 5, 5}, {4, 7, 5, 15}, {5, 2, 4, 6}, {2, 1, 9, 0}};
        int[] seeds = {0, 1, 7, 12345, 65536, 500000, 999998, 999999};
        for (int[] t : rows) {
            for (int seed : seeds) {
                for (int n = 0; n <= 60; n += 12) {
                    KerbBall x = allKinds(0);
                    long rest = seed;
                    int sum = 0;
                    for (int i = 0; i < n; i++) {
                        rest = Math.floorMod(rest * 1103515245L + 12345L, 1L << 31);
                        int drawn = (int) (rest >> 16 & 15);
                        sum += x.play(t[0], t[1], t[2], t[3], SLIPS[drawn >> 2], SLIPS[drawn & 3]);
                    }
                    doc.same("seed " + seed + ", " + n, x.evening(t[0], t[1], t[2], t[3], n, seed), sum);
                    doc.same("nothing of it is played", x.score(0) + x.score(1), sum);
                }
            }
        }
    }

    // ---- playing, what there is

    private static void playing() {
        doc.says("PLAYING: two players (0, 1)", WordsTest::byTurns);
        doc.says("A THROW is played, with SLIPS: points. BAD.", () -> eachThrow((x, wet, kind, f, s) -> {
            for (int slipF = -1; slipF <= 1; slipF++) {
                for (int slipS = -1; slipS <= 1; slipS++) {
                    int y = Math.min(20, f + s);
                    doc.same(kind + " " + f + " " + s + " " + slipF + " " + slipS, x.play(kind, f, s, y, slipF, slipS),
                            pointsOf(kind, wet, f + slipF, s + slipS, y));
                }
            }
        }));
        doc.says("Points of a player (0, 1). BAD.", WordsTest::byTurns);
        doc.says("Who is on.", WordsTest::byTurns);
    }

    private static void byTurns() {
        KerbBall x = Made.street(SHARP);
        int[] has = {0, 0};
        for (int i = 0; i < 120; i++) {
            doc.same("on", x.on(), i % 2);
            int y = 5 + i * i % 12;
            has[i % 2] += pointsOf(SHARP, 0, 5, 5, y);
            x.play(0, 5, 5, y, 0, 0);
            doc.same("points of 0", x.score(0), has[0]);
            doc.same("points of 1", x.score(1), has[1]);
        }
    }

    private static void whatThereIs() {
        doc.says("STATUS: BAD (0), NO (1), FULL (2).", () -> {
            KerbBall x = Made.street(0, 0, 0, 0, 0, 0, 0, 0);
            for (int i = 1; i <= 40; i++) {
                x.wet(-i);
                x.wet(3 + i);
                x.wet(4);
                x.undo();
                x.from(0);
                x.stone(0);
                doc.same("BAD", x.status(0), 3L * i);
                doc.same("NO", x.status(1), 2L * i);
                doc.same("FULL", x.status(2), i);
            }
        });
        doc.says("h = 31 h + v for each v: count(0) to count(4); KINDS of STONES; points of both, who is on; of THE BOOK each THROW's "
                + "STONE, f, s, STAND, SLIPS, points; THE FRACTION.", () -> {
                    KerbBall x = Made.wetStreet(2, 5, 0);
                    x.play(1, 7, 5, 12, 0, 0);
                    x.play(1, 7, 5, 15, 0, 0);
                    x.play(1, 7, 5, 20, 0, 0);
                    x.type(1, 3);
                    x.write(7, 6, 5, 4, 3, 10);
                    x.write(1, 2, 3, 8, 7, 5);
                    x.middle(8, 1, 0);
                    long h = 823;
                    long[] all = {2, 2, 3, 3, 2, 5, 0, 10, 5, 1, 7, 6, 5, 4, 3, 10, 1, 2, 3, 8, 7, 5, 1, 2};
                    for (long v : all) {
                        h = 31 * h + v;
                    }
                    doc.same("digest", x.digest(), h);
                });
    }
}
