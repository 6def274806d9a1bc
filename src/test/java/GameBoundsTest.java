import java.io.IOException;
import java.util.Arrays;

/** The sentences about the middle, the games, THE BOOK and evenings that name a bound, each with a test of its own. */
public final class GameBoundsTest {
    private static final int[] SLIPS_BY_QUARTER = {-1, 0, 0, 1};
    private static Sentences doc;

    public static void main(String[] args) throws IOException {
        doc = new Sentences("bounds of games");
        middleAndStop();
        wins();
        twofold();
        carsJudgeLot();
        both();
        sidesAndWorth();
        book();
        hours();
        evening();
        doc.end();
    }

    /** The call answers as due, and leaves that FRACTION. */
    private static void fraction(KerbBall x, String what, long answer, long due, long above, long below) {
        doc.same(what, answer, due);
        doc.same(what + ", above", x.part(0), above);
        doc.same(what + ", below", x.part(1), below);
    }

    // ---- THE MIDDLE

    private static void middleAndStop() {
        doc.says("from there a hit is 1 point, in q of 16 cases", GameBoundsTest::hitsByCases);
        doc.says("he stops behind m hits (0 .. 6), or misses", GameBoundsTest::stopsBehindHits);
        doc.says("then r (0 .. 6) of his hits are lost (no more than he has).", GameBoundsTest::lostHits);
        doc.says("STOP: the m by which it is greatest, of like ones the least.", GameBoundsTest::leastOfLikeStops);
    }

    private static void hitsByCases() {
        KerbBall x = new KerbBall();
        fraction(x, "no case", x.middle(0, 1, 0), 1, 0, 1);
        fraction(x, "one case", x.middle(1, 1, 0), 1, 1, 16);
        fraction(x, "all but one", x.middle(15, 1, 0), 1, 15, 16);
        fraction(x, "all cases", x.middle(16, 1, 0), 1, 1, 1);
        fraction(x, "one case, 6 hits", x.middle(1, 6, 6), 1, 3, 8388608);
        fraction(x, "all but one, 6 hits, none lost", x.middle(15, 6, 0), 1, 80798865, 16777216);
    }

    private static void stopsBehindHits() {
        KerbBall x = new KerbBall();
        for (int q = 0; q <= 16; q++) {
            fraction(x, "behind none, q " + q, x.middle(q, 0, q % 7), 1, 0, 1);
        }
        for (int m = 1; m <= 6; m++) {
            fraction(x, "all hit", x.middle(16, m, 6), 1, m, 1);
            fraction(x, "none hits", x.middle(0, m, 0), 1, 0, 1);
        }
        fraction(x, "2, none lost: 1 in 4 cases, 2 in 4", x.middle(8, 2, 0), 1, 3, 4);
    }

    private static void lostHits() {
        KerbBall x = new KerbBall();
        fraction(x, "6 lost of 6", x.middle(8, 6, 6), 1, 3, 32);
        fraction(x, "5 lost, of 5 none is left", x.middle(8, 6, 5), 1, 3, 32);
        fraction(x, "4 lost, of 5 one is left", x.middle(8, 6, 4), 1, 7, 64);
        fraction(x, "1 lost of 1", x.middle(8, 2, 1), 1, 1, 2);
        fraction(x, "6 lost where he has 1: no fewer than 0", x.middle(8, 2, 6), 1, 1, 2);
        fraction(x, "6 lost where he has none", x.middle(8, 1, 6), 1, 1, 2);
    }

    private static void leastOfLikeStops() {
        KerbBall x = new KerbBall();
        for (int r = 0; r <= 6; r++) {
            doc.same("none ever hits, all like: r " + r, x.stop(0, r), 0);
            doc.same("all hit: r " + r, x.stop(16, r), 6);
        }
        for (int q = 1; q <= 16; q++) {
            doc.same("none lost: q " + q, x.stop(q, 0), 6);
        }
        doc.same("one lost: 1 to 6 alike", x.stop(8, 1), 1);
        doc.same("one lost: more than half", x.stop(9, 1), 6);
        doc.same("one lost: less than half", x.stop(7, 1), 1);
        doc.same("all lost: 1 and 2 alike", x.stop(8, 6), 1);
        doc.same("all lost: 2 alone", x.stop(9, 6), 2);
        doc.same("all lost: 3 and 4 alike", x.stop(12, 6), 3);
        doc.same("all lost: 5 alone", x.stop(13, 6), 5);
    }

    // ---- WINS

    private static void wins() {
        doc.says("two have a, b points (0 .. 40), the first one is on, T (1 .. 40) is to be reached", GameBoundsTest::pointsToReach);
        doc.says("by turns, n turns of one in all (0 .. 8), a throw in each", GameBoundsTest::turnsOfOne);
        doc.says("(c and d no more than 16 together)", GameBoundsTest::casesTogether);
        doc.says("Who has T or more first has won (if both have it at once as it begins: the first one).", GameBoundsTest::hasWonAtOnce);
        doc.says("Cases, of 16 to the n, by which the first one has won behind them.", GameBoundsTest::casesOfAll);
    }

    private static void pointsToReach() {
        KerbBall x = new KerbBall();
        doc.same("39 and 5 is more than 40", x.wins(39, 0, 40, 1, 0, 16), 16);
        doc.same("35 and 5 is 40", x.wins(35, 0, 40, 1, 0, 16), 16);
        doc.same("34 and 5 is not", x.wins(34, 0, 40, 1, 0, 16), 0);
        doc.same("30 and 10 is 40", x.wins(30, 0, 40, 1, 16, 0), 16);
        doc.same("29 and 10 is not", x.wins(29, 0, 40, 1, 16, 0), 0);
        doc.same("0 and 10 is 1", x.wins(0, 0, 1, 1, 4, 8), 12);
        doc.same("the first one is on: the other has no throw", x.wins(39, 39, 40, 1, 16, 0), 16);
        doc.same("the other one, behind his miss", x.wins(30, 35, 40, 3, 0, 16), 0);
        int[][] wrong = {{-1, 0, 40, 1, 4, 4}, {41, 0, 40, 1, 4, 4}, {0, -1, 40, 1, 4, 4}, {0, 41, 40, 1, 4, 4}, {0, 0, 0, 1, 4, 4},
            {0, 0, 41, 1, 4, 4}, {0, 0, 40, 1, -1, 4}, {0, 0, 40, 1, 4, -1}};
        for (int[] w : wrong) {
            Twins.refused(doc.checks, doc.of(Arrays.toString(w)), Made::busy, Twins.BAD, -100,
                    y -> y.wins(w[0], w[1], w[2], w[3], w[4], w[5]));
        }
    }

    private static void turnsOfOne() {
        KerbBall x = new KerbBall();
        doc.same("none left, none has it", x.wins(0, 0, 1, 0, 16, 0), 0);
        doc.same("none left, he has it", x.wins(1, 0, 1, 0, 16, 0), 1);
        doc.same("none left, the other has it", x.wins(0, 1, 1, 0, 16, 0), 0);
        doc.same("40 by 10s needs 7 turns of one", x.wins(0, 0, 40, 6, 16, 0), 0);
        doc.same("7 turns", x.wins(0, 0, 40, 7, 16, 0), 1L << 28);
        doc.same("8 turns", x.wins(0, 0, 40, 8, 16, 0), 1L << 32);
        doc.same("the other one in 8", x.wins(0, 1, 40, 8, 16, 0), 1L << 32);
        doc.same("the other one by 5 ahead of him", x.wins(0, 10, 40, 8, 16, 0), 0);
        Twins.refused(doc.checks, doc.of("-1"), Made::busy, Twins.BAD, -100, y -> y.wins(0, 0, 10, -1, 4, 4));
        Twins.refused(doc.checks, doc.of("9"), Made::busy, Twins.BAD, -100, y -> y.wins(0, 0, 10, 9, 4, 4));
    }

    private static void casesTogether() {
        for (int c = -1; c <= 17; c++) {
            KerbBall x = new KerbBall();
            for (int d = -1; d <= 17; d++) {
                boolean told = c >= 0 && d >= 0 && c + d <= 16;
                doc.same("c " + c + ", d " + d, x.wins(0, 0, 5, 1, c, d), told ? c + d : -100);
            }
        }
        int most = Integer.MAX_VALUE;
        int least = Integer.MIN_VALUE;
        int[][] wrong = {{most, most}, {most, 1}, {1, most}, {least, least}, {most, least}, {least, most}, {17, -1}, {-1, 17}};
        for (int[] w : wrong) {
            Twins.refused(doc.checks, doc.of(w[0] + " and " + w[1]), Made::busy, Twins.BAD, -100, y -> y.wins(0, 0, 5, 1, w[0], w[1]));
        }
    }

    private static void hasWonAtOnce() {
        KerbBall x = new KerbBall();
        for (int n = 0; n <= 8; n++) {
            doc.same("both have it, n " + n, x.wins(40, 40, 40, n, 4, 8), 1L << 4 * n);
            doc.same("both have more, the other the most, n " + n, x.wins(2, 40, 1, n, 4, 8), 1L << 4 * n);
            doc.same("the first one has just it, n " + n, x.wins(10, 9, 10, n, 0, 16), 1L << 4 * n);
            doc.same("the other one has just it, n " + n, x.wins(9, 10, 10, n, 16, 0), 0);
        }
        doc.same("one less, he reaches it first", x.wins(9, 9, 10, 2, 0, 16), 256);
    }

    private static void casesOfAll() {
        KerbBall x = new KerbBall();
        doc.same("won at the first of 8: more than an int holds", x.wins(0, 0, 1, 8, 16, 0), 4294967296L);
        doc.same("won by 15 of 16 at the first of 1", x.wins(0, 0, 1, 1, 15, 0), 15);
        doc.same("all ways of what comes behind the win are counted", x.wins(0, 0, 10, 3, 4, 8), 2368);
        doc.same("no points ever", x.wins(0, 0, 1, 8, 0, 0), 0);
        doc.same("the least that may be, at the 8th: the other's", x.wins(0, 30, 40, 8, 1, 0), 15L * 15 * 15 * 16);
    }

    // ---- DOUBLE

    private static void twofold() {
        doc.says("he is d points behind (0 .. 20) with k throws left (0 .. 8)", GameBoundsTest::behindAndLeft);
        doc.says("(of like ones a plain one; none is to be, if d or k is 0)", GameBoundsTest::plainOfLikeOnes);
        doc.says("the greatest chance to make d points or more", GameBoundsTest::pointsOrMore);
    }

    private static void behindAndLeft() {
        KerbBall x = new KerbBall();
        fraction(x, "20 of 16 at most", x.twofold(20, 8, 16, 16), 0, 0, 1);
        fraction(x, "17 of 16 at most", x.twofold(17, 8, 16, 16), 0, 0, 1);
        fraction(x, "16 of 16 at most", x.twofold(16, 8, 16, 16), 1, 1, 1);
        fraction(x, "15: one may be plain", x.twofold(15, 8, 16, 16), 0, 1, 1);
        fraction(x, "16 by doubles of one case: 1 of 16 to the 8", x.twofold(16, 8, 0, 1), 1, 1, 4294967296L);
        fraction(x, "8 by plain ones of one case", x.twofold(8, 8, 1, 0), 0, 1, 4294967296L);
        fraction(x, "one throw", x.twofold(1, 1, 5, 4), 0, 5, 16);
        int[][] wrong = {{-1, 1, 1, 1}, {21, 1, 1, 1}, {1, -1, 1, 1}, {1, 9, 1, 1}, {1, 1, -1, 1}, {1, 1, 17, 1}, {1, 1, 1, -1},
            {1, 1, 1, 17}, {0, 9, 1, 1}, {21, 0, 1, 1}};
        for (int[] w : wrong) {
            Twins.bad(doc.checks, doc.of(Arrays.toString(w)), Made::busy, y -> y.twofold(w[0], w[1], w[2], w[3]));
        }
    }

    private static void plainOfLikeOnes() {
        KerbBall x = new KerbBall();
        for (int k = 0; k <= 8; k++) {
            fraction(x, "d 0, k " + k, x.twofold(0, k, 0, 16), 0, 1, 1);
        }
        for (int d = 1; d <= 20; d++) {
            fraction(x, "k 0, d " + d, x.twofold(d, 0, 0, 16), 0, 0, 1);
        }
        fraction(x, "alike", x.twofold(1, 1, 8, 8), 0, 1, 2);
        fraction(x, "the double is a case better", x.twofold(1, 1, 8, 9), 1, 9, 16);
        fraction(x, "both never", x.twofold(1, 1, 0, 0), 0, 0, 1);
        fraction(x, "both always", x.twofold(1, 8, 16, 16), 0, 1, 1);
    }

    private static void pointsOrMore() {
        KerbBall x = new KerbBall();
        fraction(x, "2 are enough for 1", x.twofold(1, 1, 0, 16), 1, 1, 1);
        fraction(x, "1 is not enough for 2", x.twofold(2, 1, 16, 0), 0, 0, 1);
        fraction(x, "2 are enough for 2", x.twofold(2, 1, 16, 1), 1, 1, 16);
        fraction(x, "4 are enough for 3", x.twofold(3, 2, 0, 16), 1, 1, 1);
    }

    // ---- CARS, EDGE BY BACK, BY LOT

    private static void carsJudgeLot() {
        doc.says("in each of k throws (0 .. 40) one comes in c of 10 (0 .. 10); who shouts first has a point, he in v of 10",
                GameBoundsTest::carsAtTheirEnds);
        doc.says("the chance that it was an EDGE: THE FRACTION (NO: it never comes so).", GameBoundsTest::judged);
        doc.says("BAD: YARDS 0 .. 30, too; NO.", GameBoundsTest::yardsOfJudge);
        doc.says("of n throws with one ball a hit, of m with another one b (n, m 1 .. 12)", GameBoundsTest::throwsOfLots);
        doc.says("BAD: a above n, b above m, too.", GameBoundsTest::hitsOfLots);
        doc.says("by how many the first ball has a at least: THE FRACTION.", GameBoundsTest::atLeast);
    }

    private static void carsAtTheirEnds() {
        KerbBall x = new KerbBall();
        fraction(x, "no throws", x.cars(0, 10, 10), 1, 0, 1);
        fraction(x, "no cars", x.cars(40, 0, 10), 1, 0, 1);
        fraction(x, "never he", x.cars(40, 10, 0), 1, 0, 1);
        fraction(x, "the most", x.cars(40, 10, 10), 1, 40, 1);
        fraction(x, "the least", x.cars(1, 1, 1), 1, 1, 100);
        fraction(x, "39", x.cars(39, 9, 9), 1, 3159, 100);
        int[][] wrong = {{-1, 0, 0}, {41, 0, 0}, {0, -1, 0}, {0, 11, 0}, {0, 0, -1}, {0, 0, 11}};
        for (int[] w : wrong) {
            Twins.bad(doc.checks, doc.of(Arrays.toString(w)), Made::busy, y -> y.cars(w[0], w[1], w[2]));
        }
    }

    private static void judged() {
        KerbBall x = Made.street(Made.SHARP);
        // f 5, s 5 by slips: TOPs come back 0 (3 cases), FRONTs 2 (3), EDGEs 9 (2), 10 (6), 11 (2)
        int[] edges = {9, 10, 11};
        for (int yards : edges) {
            fraction(x, "an EDGE for sure: " + yards, x.judge(0, 5, 5, yards), 1, 1, 1);
        }
        fraction(x, "a FRONT for sure", x.judge(0, 5, 5, 2), 1, 0, 1);
        fraction(x, "a TOP comes back 0", x.judge(0, 5, 5, 0), 1, 0, 1);
        fraction(x, "so does a SHORT one", x.judge(0, 1, 9, 0), 1, 0, 1);
        for (int yards = 0; yards <= 30; yards++) {
            int told = yards;
            if (yards != 0 && yards != 2 && (yards < 9 || yards > 11)) {
                Twins.refused(doc.checks, doc.of("never " + yards), () -> judging(), Twins.NO, -3, y -> y.judge(0, 5, 5, told));
            }
        }
        // f 6, s 4 on WORN: the FRONT of f 6, s 3 comes back 3 (2 cases), so does the EDGE of f 5, s 4 (2 cases)
        KerbBall y = Made.street(Made.WORN);
        fraction(y, "an EDGE or a FRONT", y.judge(0, 6, 4, 3), 1, 1, 2);
    }

    private static KerbBall judging() {
        KerbBall x = Made.street(Made.SHARP);
        x.cars(3, 3, 3);
        return x;
    }

    private static void yardsOfJudge() {
        Twins.refused(doc.checks, doc.of("30 is told, but never comes"), Made::busy, Twins.NO, -3, x -> x.judge(0, 5, 5, 30));
        Twins.bad(doc.checks, doc.of("31 never comes, too: BAD goes first"), Made::busy, x -> x.judge(0, 5, 5, 31));
        Twins.bad(doc.checks, doc.of("-1 never comes, too: BAD goes first"), Made::busy, x -> x.judge(0, 5, 5, -1));
        Twins.bad(doc.checks, doc.of("no such stone, never so: BAD goes first"), Made::busy, x -> x.judge(3, 5, 5, 30));
        Twins.bad(doc.checks, doc.of("f 10, never so: BAD goes first"), Made::busy, x -> x.judge(0, 10, 5, 30));
        Twins.bad(doc.checks, doc.of("s 10, never so: BAD goes first"), Made::busy, x -> x.judge(0, 5, 10, 30));
        KerbBall x = Made.wetStreet(3, Made.HIGH);
        fraction(x, "the most YARDS, by f 10", x.judge(0, 9, 6, 17), 1, 1, 1);
        doc.same("one more never comes", x.judge(0, 9, 6, 18), -3);
    }

    private static void throwsOfLots() {
        KerbBall x = new KerbBall();
        fraction(x, "one each, a hit of the first", x.lot(1, 1, 1, 0), 1, 1, 2);
        fraction(x, "one each, a hit of the other", x.lot(1, 0, 1, 1), 1, 1, 1);
        fraction(x, "one each, both hit", x.lot(1, 1, 1, 1), 1, 1, 1);
        fraction(x, "one each, none hits", x.lot(1, 0, 1, 0), 1, 1, 1);
        fraction(x, "12 each, all of the first", x.lot(12, 12, 12, 0), 1, 1, 2704156);
        fraction(x, "12 each, half", x.lot(12, 6, 12, 6), 1, 127069, 193154);
        fraction(x, "12 each, all", x.lot(12, 12, 12, 12), 1, 1, 1);
        fraction(x, "12 and 1", x.lot(12, 12, 1, 0), 1, 1, 13);
        fraction(x, "1 and 12", x.lot(1, 1, 12, 0), 1, 1, 13);
        fraction(x, "1 and 12, one hit left out", x.lot(1, 1, 12, 11), 1, 12, 13);
        int[][] wrong = {{0, 0, 1, 0}, {13, 0, 1, 0}, {1, 0, 0, 0}, {1, 0, 13, 0}, {0, 0, 0, 0}, {13, 13, 13, 13}};
        for (int[] w : wrong) {
            Twins.bad(doc.checks, doc.of(Arrays.toString(w)), Made::busy, y -> y.lot(w[0], w[1], w[2], w[3]));
        }
    }

    private static void hitsOfLots() {
        for (int n = 0; n <= 13; n++) {
            for (int a = -1; a <= 14; a++) {
                KerbBall x = new KerbBall();
                for (int m = 0; m <= 13; m++) {
                    for (int b = -1; b <= 14; b++) {
                        boolean told = n >= 1 && n <= 12 && m >= 1 && m <= 12 && a >= 0 && a <= n && b >= 0 && b <= m;
                        doc.same(n + " " + a + " " + m + " " + b, x.lot(n, a, m, b), told ? 1 : -2);
                    }
                }
            }
        }
        Twins.bad(doc.checks, doc.of("a one above n"), Made::busy, y -> y.lot(3, 4, 5, 1));
        Twins.bad(doc.checks, doc.of("b one above m"), Made::busy, y -> y.lot(5, 1, 3, 4));
    }

    private static void atLeast() {
        KerbBall x = new KerbBall();
        fraction(x, "just as many, or more", x.lot(3, 2, 3, 1), 1, 1, 2);
        fraction(x, "0 at least: always", x.lot(5, 0, 5, 5), 1, 1, 1);
        fraction(x, "the other one has too few throws for all the hits", x.lot(2, 1, 1, 1), 1, 1, 1);
        fraction(x, "all of his", x.lot(3, 3, 2, 0), 1, 1, 10);
    }

    // ---- BOTH

    private static void both() {
        doc.says("he is d points behind (0 .. 4)", GameBoundsTest::behindInBoth);
        doc.says("to be no longer behind when both have thrown: THE FRACTION", GameBoundsTest::noLongerBehind);
        doc.says("the greatest chance that he can be sure of, by picking by lot too", GameBoundsTest::byLotToo);
        doc.says("how many pairs of picks rest (neither would do better by the other pick).", GameBoundsTest::pairsThatRest);
    }

    private static void behindInBoth() {
        KerbBall x = new KerbBall();
        fraction(x, "3: two are too few", x.both(3, 16, 16, 0, 0), 4, 0, 1);
        fraction(x, "4: two are too few", x.both(4, 16, 16, 0, 0), 4, 0, 1);
        fraction(x, "2: two are enough", x.both(2, 16, 16, 0, 0), 2, 1, 1);
        fraction(x, "1: one is enough", x.both(1, 16, 16, 0, 0), 4, 1, 1);
        fraction(x, "0: none is enough", x.both(0, 0, 0, 0, 0), 4, 1, 1);
        int[][] wrong = {{-1, 1, 1, 1, 1}, {5, 1, 1, 1, 1}, {1, -1, 1, 1, 1}, {1, 17, 1, 1, 1}, {1, 1, -1, 1, 1}, {1, 1, 17, 1, 1},
            {1, 1, 1, -1, 1}, {1, 1, 1, 17, 1}, {1, 1, 1, 1, -1}, {1, 1, 1, 1, 17}, {5, 17, 17, 17, 17}};
        for (int[] w : wrong) {
            Twins.bad(doc.checks, doc.of(Arrays.toString(w)), Made::busy, y -> y.both(w[0], w[1], w[2], w[3], w[4]));
        }
    }

    private static void noLongerBehind() {
        KerbBall x = new KerbBall();
        fraction(x, "level is no longer behind: 1 against 1, d 0", x.both(0, 16, 0, 16, 0), 2, 1, 1);
        fraction(x, "1 against 2, d 0", x.both(0, 16, 0, 0, 16), 2, 0, 1);
        fraction(x, "2 against 2, d 0", x.both(0, 0, 16, 0, 16), 2, 1, 1);
        fraction(x, "2 against 1, d 1", x.both(1, 0, 16, 16, 0), 2, 1, 1);
        fraction(x, "2 against 2, d 1", x.both(1, 0, 16, 0, 16), 2, 0, 1);
        fraction(x, "both may miss, d 0", x.both(0, 8, 8, 8, 8), 2, 3, 4);
    }

    private static void byLotToo() {
        KerbBall x = new KerbBall();
        // plain: 256 of 256 against plain, 128 against double; double: 128 and 192
        fraction(x, "by lot 2 of 3, none rests", x.both(0, 16, 8, 16, 8), 0, 2, 3);
        fraction(x, "without a lot 3 of 4", x.both(0, 8, 4, 8, 4), 1, 3, 4);
    }

    private static void pairsThatRest() {
        KerbBall x = new KerbBall();
        doc.same("none", x.both(0, 16, 8, 16, 8), 0);
        doc.same("one", x.both(0, 8, 4, 8, 4), 1);
        doc.same("two", x.both(2, 16, 2, 0, 0), 2);
        doc.same("all, as all are alike", x.both(4, 1, 2, 3, 4), 4);
    }

    // ---- SIDES, WORTH

    private static void sidesAndWorth() {
        doc.says("SIDES at c (1 to STONES less 1)", GameBoundsTest::sidesByStones);
        doc.says("(all of them, if it is the only one)", GameBoundsTest::worthOfTheOnlyOne);
        doc.says("WORTH. BAD.", GameBoundsTest::worthByStones);
    }

    private static void sidesByStones() {
        for (int many = 0; many <= 8; many++) {
            int[] kinds = new int[many];
            Arrays.fill(kinds, Made.ROUND);
            for (int c = -1; c <= 9; c++) {
                KerbBall x = Made.street(kinds);
                boolean told = c >= 1 && c <= many - 1;
                doc.same(many + " alike, at " + c, x.sides(c), told ? 0 : -1000);
                doc.same(many + " alike, at " + c + ": BAD", x.status(0), told ? 0 : 1);
            }
        }
        KerbBall x = Made.street(0, 1, 1, 1, 1, 1, 1, 1);
        int less = x.best(1, 0);
        doc.checks.isTrue(doc.of("ROUND has less than SHARP"), less < 100);
        doc.same("the best one at the first side's end", x.sides(1), 100 - less);
        doc.same("and further", x.sides(7), 100 - less);
        KerbBall y = Made.street(1, 1, 1, 1, 1, 1, 1, 0);
        doc.same("the best one at the other side's end", y.sides(7), less - 100);
        doc.same("and further on", y.sides(1), less - 100);
        Twins.refused(doc.checks, doc.of("0"), Made::full, Twins.BAD, -1000, z -> z.sides(0));
        Twins.refused(doc.checks, doc.of("8 of 8"), Made::full, Twins.BAD, -1000, z -> z.sides(8));
        Twins.refused(doc.checks, doc.of("1 of 1"), () -> Made.street(0), Twins.BAD, -1000, z -> z.sides(1));
    }

    private static void worthOfTheOnlyOne() {
        for (int kind = 0; kind <= 5; kind++) {
            for (int wet = 0; wet <= 3; wet++) {
                KerbBall x = Made.wetStreet(wet, kind);
                doc.checks.isTrue(doc.of("it has POINTS"), x.best(0, 0) > 0);
                doc.same("kind " + kind + ", WET " + wet, x.worth(0), x.best(0, 0));
            }
        }
    }

    private static void worthByStones() {
        KerbBall x = Made.street(1, 1, 1, 1, 1, 1, 1, 0);
        int less = x.best(0, 0);
        doc.same("the best one, the last of 8", x.worth(7), 100 - less);
        doc.same("the first of 8", x.worth(0), 0);
        KerbBall y = Made.street(0, 0);
        doc.same("the first of two alike", y.worth(0), 0);
        doc.same("the other one", y.worth(1), 0);
        Twins.bad(doc.checks, doc.of("-1"), Made::full, z -> z.worth(-1));
        Twins.bad(doc.checks, doc.of("8 of 8"), Made::full, z -> z.worth(8));
        Twins.bad(doc.checks, doc.of("1 of 1"), () -> Made.street(0), z -> z.worth(1));
    }

    // ---- THE BOOK

    private static void book() {
        doc.says("up to 12 THROWS", GameBoundsTest::twelveThrows);
        doc.says("with SLIPS (3 times f's and 1, and s's and 1: 0 .. 8)", GameBoundsTest::slipsOfTheBook);
        doc.says("STANDS and the points told of them (0, 5, 10)", GameBoundsTest::pointsOfTheBook);
        doc.says("BAD: points 0, 5, 10; STONES 0 .. 7; FULL: 12.", GameBoundsTest::stonesOfTheBook);
        doc.says("(by STONES, WET as now; one whose STONE is not there is)", GameBoundsTest::wrongByStonesAsNow);
        doc.says("THE BOOK is empty: how many there were.", GameBoundsTest::tornBook);
        doc.says("WRONG (0; NONE), TOLD (1). BAD.", GameBoundsTest::emptyBook);
    }

    private static KerbBall written(int many, int points) {
        KerbBall x = Made.street(Made.SHARP);
        for (int i = 0; i < many; i++) {
            x.write(0, 5, 5, 10, 4, points);
        }
        return x;
    }

    private static void twelveThrows() {
        KerbBall x = new KerbBall();
        for (int i = 1; i <= 12; i++) {
            doc.same("how many", x.write(7, 9, 9, 20, 8, 10), i);
            doc.same("counted", x.count(4), i);
        }
        Twins.refused(doc.checks, doc.of("a 13th"), Made::full, Twins.FULL, -4, y -> y.write(0, 5, 5, 5, 4, 5));
        Twins.refused(doc.checks, doc.of("a 13th, of a stone that is not there"), () -> written(12, 10), Twins.FULL, -4,
                y -> y.write(7, 5, 5, 5, 4, 5));
        Twins.bad(doc.checks, doc.of("a 13th, not as told: BAD goes first"), Made::full, y -> y.write(0, 5, 5, 5, 4, 6));
        doc.same("all are told", x.book(1), 120);
        doc.same("12 in a row", x.hours(12), 0);
        doc.same("the 12th wrong one", fullBookWithWrongLast().book(0), 11);
    }

    private static KerbBall fullBookWithWrongLast() {
        KerbBall x = written(11, 10);
        x.write(0, 5, 5, 10, 4, 5);
        return x;
    }

    private static void slipsOfTheBook() {
        // SHARP, f 5, s 5 by slips of f and s, -1 to 1 each, from stand 12: FRONT, 9, 10; FRONT, 10, TOP; 10, 11, TOP
        int[] due = {0, 5, 5, 0, 5, 0, 5, 10, 0};
        KerbBall x = Made.street(Made.SHARP);
        for (int slips = 0; slips <= 8; slips++) {
            doc.same("played so", x.play(0, 5, 5, 12, slips / 3 - 1, slips % 3 - 1), due[slips]);
            doc.same("written", x.write(0, 5, 5, 12, slips, due[slips]), slips + 1);
        }
        doc.same("none is wrong", x.book(0), -1);
        for (int slips = 0; slips <= 8; slips++) {
            for (int points = 0; points <= 10; points += 5) {
                KerbBall y = Made.street(Made.SHARP);
                y.write(0, 5, 5, 12, slips, points);
                doc.same("slips " + slips + ", told " + points, y.book(0), points == due[slips] ? -1 : 0);
            }
        }
        Twins.bad(doc.checks, doc.of("-1"), Made::busy, y -> y.write(0, 5, 5, 5, -1, 5));
        Twins.bad(doc.checks, doc.of("9"), Made::busy, y -> y.write(0, 5, 5, 5, 9, 5));
        // f 9, s 0 of DOWN with f 1 more: HEIGHT 10, comes back 8; s 1 less: HEIGHT 8, a FRONT
        KerbBall z = Made.street(Made.DOWN);
        z.write(0, 9, 0, 8, 7, 10);
        z.write(0, 9, 0, 8, 6, 0);
        doc.same("f 10 and s -1 as they are", z.book(0), -1);
    }

    private static void pointsOfTheBook() {
        for (int points = -6; points <= 16; points++) {
            KerbBall x = new KerbBall();
            boolean told = points == 0 || points == 5 || points == 10;
            doc.same("points " + points, x.write(0, 5, 5, 5, 4, points), told ? 1 : -2);
            doc.same("points " + points + ", BAD", x.status(0), told ? 0 : 1);
            doc.same("points " + points + ", in it", x.count(4), told ? 1 : 0);
            doc.same("points " + points + ", TOLD", x.book(1), told ? points : 0);
        }
    }

    private static void stonesOfTheBook() {
        KerbBall x = new KerbBall();
        doc.same("stone 7 of none", x.write(7, 5, 5, 5, 4, 5), 1);
        doc.same("stone 0 of none", x.write(0, 5, 5, 5, 4, 5), 2);
        Twins.bad(doc.checks, doc.of("stone 8"), Made::full, y -> y.write(8, 5, 5, 5, 4, 5));
        Twins.bad(doc.checks, doc.of("stone -1"), Made::busy, y -> y.write(-1, 5, 5, 5, 4, 5));
        Twins.bad(doc.checks, doc.of("stone 8, room for it"), Made::empty, y -> y.write(8, 5, 5, 5, 4, 5));
    }

    private static void wrongByStonesAsNow() {
        KerbBall x = new KerbBall();
        x.write(1, 9, 9, 0, 8, 0);
        doc.same("no STONES, 0 points told", x.book(0), 0);
        x.stone(Made.SHARP);
        doc.same("one too few", x.book(0), 0);
        x.stone(Made.SHARP);
        doc.same("just there", x.book(0), -1);
        x.write(0, 5, 5, 10, 4, 10);
        doc.same("right, dry", x.book(0), -1);
        x.wet(2);
        doc.same("wrong, wet: HEIGHT 13 is a FRONT", x.book(0), 1);
        x.wet(1);
        doc.same("right, less wet: HEIGHT 14", x.book(0), -1);
        x.read();
        doc.same("the STREET is read, no STONES", x.book(0), 0);
        doc.same("what was told stays", x.book(1), 10);
    }

    private static void tornBook() {
        KerbBall x = new KerbBall();
        doc.same("none yet", x.tear(), 0);
        KerbBall y = written(12, 10);
        doc.same("all", y.tear(), 12);
        doc.same("none", y.tear(), 0);
        doc.same("TOLD", y.book(1), 0);
        doc.same("a row of 1", y.hours(1), -1);
        for (int i = 1; i <= 12; i++) {
            doc.same("12 may be written anew", y.write(0, 5, 5, 10, 4, 0), i);
        }
        doc.same("and no more", y.write(0, 5, 5, 10, 4, 0), -4);
        doc.same("those as told now", y.book(1), 0);
    }

    private static void emptyBook() {
        Twins.changesNothing(doc.checks, doc.of("none is wrong where none is"), Made::empty, -1, x -> x.book(0));
        Twins.changesNothing(doc.checks, doc.of("none is told"), Made::empty, 0, x -> x.book(1));
        Twins.bad(doc.checks, doc.of("-1"), Made::empty, x -> x.book(-1));
        Twins.bad(doc.checks, doc.of("2"), Made::full, x -> x.book(2));
        doc.same("all right", written(12, 10).book(0), -1);
        doc.same("the first of 12 wrong ones", written(12, 5).book(0), 0);
    }

    // ---- HOURS

    private static void hours() {
        doc.says("rows of so many THROWS of it (1 .. 12) one behind the other", GameBoundsTest::rowsOfHours);
        doc.says("where the row begins by which most points were told, of like ones the first.", GameBoundsTest::firstOfLikeRows);
        doc.says("HOURS of k. NONE: not so many THROWS. BAD.", GameBoundsTest::notSoMany);
    }

    private static void rowsOfHours() {
        KerbBall x = new KerbBall();
        int[] told = {0, 5, 5, 10, 0, 10, 0, 5, 0, 0, 10, 10};
        for (int p : told) {
            x.write(0, 5, 5, 5, 4, p);
        }
        int[] due = {3, 10, 1, 2, 1, 0, 1, 0, 3, 2, 1, 0};
        for (int k = 1; k <= 12; k++) {
            doc.same("k " + k, x.hours(k), due[k - 1]);
        }
        Twins.bad(doc.checks, doc.of("0"), Made::full, y -> y.hours(0));
        Twins.bad(doc.checks, doc.of("13"), Made::full, y -> y.hours(13));
    }

    private static void firstOfLikeRows() {
        for (int points = 0; points <= 10; points += 5) {
            KerbBall x = written(12, points);
            for (int k = 1; k <= 12; k++) {
                doc.same("all alike by " + points + ", k " + k, x.hours(k), 0);
            }
        }
        KerbBall x = written(11, 0);
        x.write(0, 5, 5, 5, 4, 5);
        for (int k = 1; k <= 12; k++) {
            doc.same("the last alone has points, k " + k, x.hours(k), 12 - k);
        }
    }

    private static void notSoMany() {
        for (int many = 0; many <= 12; many++) {
            int m = many;
            KerbBall x = written(many, 5);
            for (int k = 1; k <= 12; k++) {
                doc.same("k " + k + " of " + many, x.hours(k), k <= many ? 0 : -1);
            }
            doc.same("NONE is no refusal", x.status(0) + x.status(1) + x.status(2), 0);
            Twins.bad(doc.checks, doc.of("13 of " + many), () -> written(m, 5), y -> y.hours(13));
            Twins.bad(doc.checks, doc.of("0 of " + many), () -> written(m, 5), y -> y.hours(0));
        }
    }

    // ---- AN EVENING

    private static void evening() {
        doc.says("AN EVENING by a SEED (0 .. 999999): X is SEED at first", GameBoundsTest::seeds);
        doc.says("of n (0 .. 60) THROWS, all told alike, with a STAND", GameBoundsTest::throwsOfEvenings);
        doc.says("cases 0 .. 15 are f's SLIP 4 times and s's (0: 1 less, 1 and 2: so, 3: 1 more): points of all.",
                GameBoundsTest::casesOfEvenings);
    }

    private static void seeds() {
        Twins.bad(doc.checks, doc.of("-1"), Made::busy, x -> x.evening(0, 5, 5, 5, 5, -1));
        Twins.bad(doc.checks, doc.of("1000000"), Made::busy, x -> x.evening(0, 5, 5, 5, 5, 1000000));
        Twins.bad(doc.checks, doc.of("-1, of no throws"), Made::busy, x -> x.evening(0, 5, 5, 5, 0, -1));
        // SEED 0 draws the case 0 first, SEED 999999 the case 8
        KerbBall x = Made.street(Made.SHARP);
        doc.same("SEED 0: f 4, s 5", x.evening(0, 5, 6, 9, 1, 0), 10);
        doc.same("SEED 999999: f 5, s 5", x.evening(0, 5, 6, 9, 1, 999999), 10);
    }

    private static void throwsOfEvenings() {
        Twins.bad(doc.checks, doc.of("-1"), Made::busy, x -> x.evening(0, 5, 5, 5, -1, 5));
        Twins.bad(doc.checks, doc.of("61"), Made::busy, x -> x.evening(0, 5, 5, 5, 61, 5));
        int[] of0 = {0, 12, 4, 5, 10, 15, 13, 13, 10, 10, 5, 12, 11, 14, 15, 3, 0, 9, 12, 13, 0, 15, 9, 15, 0, 13, 4, 12, 4, 13, 2, 11, 6,
            8, 3, 10, 2, 15, 15, 14, 7, 8, 9, 1, 14, 9, 0, 11, 8, 5, 5, 12, 9, 9, 1, 15, 6, 6, 2, 14};
        int[] ofLast = {8, 6, 7, 15, 14, 13, 15, 13, 8, 12, 9, 1, 7, 9, 2, 3, 5, 2, 13, 4, 3, 4, 2, 11, 4, 7, 12, 0, 10, 10, 1, 10, 4, 2, 0,
            10, 4, 2, 12, 4, 2, 9, 10, 0, 3, 14, 12, 4, 7, 12, 11, 0, 5, 13, 7, 7, 7, 8, 14, 0};
        for (int y = 8; y <= 14; y += 3) {
            KerbBall x = Made.street(Made.SHARP);
            int due0 = 0;
            int dueLast = 0;
            for (int n = 0; n <= 60; n++) {
                doc.same("n " + n + ", SEED 0", x.evening(0, 5, 5, y, n, 0), due0);
                doc.same("n " + n + ", SEED 999999", x.evening(0, 5, 5, y, n, 999999), dueLast);
                if (n < 60) {
                    due0 += pointsOfCase(x, of0[n], y);
                    dueLast += pointsOfCase(x, ofLast[n], y);
                }
            }
            doc.same("an evening leaves points, who is on and what may be undone", x.score(0) + x.score(1) + x.on() + x.count(2), 0);
        }
    }

    private static int pointsOfCase(KerbBall x, int drawn, int y) {
        return x.points(0, 5 + SLIPS_BY_QUARTER[drawn / 4], 5 + SLIPS_BY_QUARTER[drawn % 4], y);
    }

    /** For each case a SEED that draws it first. */
    private static void casesOfEvenings() {
        int[] low = {0, 18, 8, 3, 21, 11, 1, 24, 9, 4, 22, 12, 2, 25, 15, 5};
        int[] high = {999985, 999975, 999998, 999988, 999978, 999996, 999991, 999981, 999999, 999994, 999979, 999997, 999992, 999982,
            999972, 999995};
        for (int drawn = 0; drawn <= 15; drawn++) {
            KerbBall x = Made.street(Made.SHARP);
            for (int y = 0; y <= 20; y++) {
                int due = pointsOfCase(x, drawn, y);
                doc.same("case " + drawn + ", stand " + y, x.evening(0, 5, 5, y, 1, low[drawn]), due);
                doc.same("case " + drawn + ", a high SEED, stand " + y, x.evening(0, 5, 5, y, 1, high[drawn]), due);
            }
        }
        // f 10 (cases 12 to 15) and s -1 (0, 4, 8, 12) are not cut: DOWN, f 9, s 0: f 10, s 0 alone of these is an EDGE
        KerbBall x = Made.street(Made.DOWN);
        doc.same("f 10, s -1", x.evening(0, 9, 0, 8, 1, low[12]), 0);
        doc.same("f 10, s 0", x.evening(0, 9, 0, 8, 1, low[13]), 10);
        doc.same("f 10, s 1", x.evening(0, 9, 0, 8, 1, low[15]), 0);
    }
}
