import java.io.IOException;
import java.util.function.IntBinaryOperator;

/** The sentences about STONES and THROWS that name a bound, each with a test of its own. */
public final class ThrowBoundsTest {
    private static Sentences doc;

    public static void main(String[] args) throws IOException {
        doc = new Sentences("bounds of throws");
        stones();
        kinds();
        ways();
        slips();
        stands();
        bests();
        doc.end();
    }

    private static KerbBall street(int... kinds) {
        return Made.street(kinds);
    }

    // ---- STONES, WET

    private static void stones() {
        doc.says("7, as they come, each of a KIND.", ThrowBoundsTest::eightStones);
        doc.says("A STONE: its number. BAD; FULL: 8.", ThrowBoundsTest::noNinthStone);
        doc.says("No STONES.", ThrowBoundsTest::noStones);
        doc.says("WET (0 .. 3; 0 at first)", ThrowBoundsTest::wetEnds);
        doc.says("A THROW at a STONE has a FORCE f (1 .. 9) and a STEEPNESS s (0 .. 9)", ThrowBoundsTest::cornersOfThrows);
        doc.says("its HEIGHT is s twice and f, less WET.", ThrowBoundsTest::heightByWet);
    }

    private static void eightStones() {
        KerbBall x = new KerbBall();
        int[] kinds = {5, 4, 3, 2, 1, 0, 5, 4};
        // f 9, s 4: too high for DOWN and SLOPED, ROUND, WORN and SHARP, an edge of HIGH; f 5, s 3 is an edge of DOWN, SLOPED
        int[] ways = {3, 2, 3, 3, 3, 3, 3, 2};
        int[] backs = {8, 2, 2, 6, 2, 2, 8, 2};
        for (int i = 0; i < 8; i++) {
            doc.same("number", x.stone(kinds[i]), i);
            doc.same("many", x.count(0), i + 1);
        }
        for (int i = 0; i < 8; i++) {
            doc.same("way of stone " + i, x.way(i, 9, 4), ways[i]);
            doc.same("back of stone " + i, x.back(i, 5, 3), backs[i]);
        }
        doc.same("no stone 8", x.way(8, 9, 4), -2);
    }

    private static void noNinthStone() {
        for (int kind = 0; kind <= 5; kind++) {
            int k = kind;
            Twins.refused(doc.checks, doc.of("a 9th of kind " + k), Made::full, Twins.FULL, -4, x -> x.stone(k));
        }
        KerbBall x = street(0, 1, 2, 3, 4, 5, 0);
        doc.same("an 8th", x.stone(1), 7);
        doc.same("a 9th", x.stone(1), -4);
        doc.same("a 9th again", x.stone(1), -4);
        doc.same("still 8", x.count(0), 8);
    }

    private static void noStones() {
        Twins.bad(doc.checks, doc.of("way"), Made::empty, x -> x.way(0, 5, 5));
        Twins.bad(doc.checks, doc.of("back"), Made::empty, x -> x.back(0, 5, 5));
        Twins.bad(doc.checks, doc.of("points"), Made::empty, x -> x.points(0, 5, 5, 5));
        Twins.bad(doc.checks, doc.of("odds"), Made::empty, x -> x.odds(0, 5, 5, 0));
        Twins.bad(doc.checks, doc.of("mean"), Made::empty, x -> x.mean(0, 5, 5, 5));
        Twins.bad(doc.checks, doc.of("line"), Made::empty, x -> x.line(0, 5, 5));
        Twins.bad(doc.checks, doc.of("judge"), Made::empty, x -> x.judge(0, 5, 5, 0));
        Twins.bad(doc.checks, doc.of("worth"), Made::empty, x -> x.worth(0));
        Twins.bad(doc.checks, doc.of("evening"), Made::empty, x -> x.evening(0, 5, 5, 5, 0, 0));
        Twins.bad(doc.checks, doc.of("play"), Made::empty, x -> x.play(0, 5, 5, 5, 0, 0));
        Twins.refused(doc.checks, doc.of("best of a stone"), Made::empty, Twins.BAD, -10, x -> x.best(0, 0));
        Twins.refused(doc.checks, doc.of("sides"), Made::empty, Twins.BAD, -1000, x -> x.sides(1));
        KerbBall x = new KerbBall();
        for (int what = 0; what <= 4; what++) {
            doc.same("count " + what, x.count(what), 0);
        }
        doc.same("the first stone", x.stone(0), 0);
    }

    private static void wetEnds() {
        KerbBall x = new KerbBall();
        doc.same("at first", x.count(1), 0);
        doc.same("was 0", x.wet(3), 0);
        doc.same("is 3", x.count(1), 3);
        doc.same("was 3, and is again", x.wet(3), 3);
        doc.same("was 3", x.wet(0), 3);
        doc.same("is 0", x.count(1), 0);
        Twins.bad(doc.checks, doc.of("-1"), Made::full, y -> y.wet(-1));
        Twins.bad(doc.checks, doc.of("4"), Made::full, y -> y.wet(4));
        doc.same("refused, it is 0 still", x.wet(4) + x.wet(1), -2);
    }

    private static void cornersOfThrows() {
        KerbBall x = street(Made.SHARP);
        int[][] corners = {{1, 0, 0, 0}, {9, 0, 1, 4}, {1, 9, 0, 0}, {9, 9, 3, 0}};
        for (int[] c : corners) {
            doc.same("way of " + c[0] + ", " + c[1], x.way(0, c[0], c[1]), c[2]);
            doc.same("back of " + c[0] + ", " + c[1], x.back(0, c[0], c[1]), c[3]);
        }
        doc.same("f 0", x.way(0, 0, 5), -2);
        doc.same("f 10", x.way(0, 10, 5), -2);
        doc.same("s -1", x.way(0, 5, -1), -2);
        doc.same("s 10", x.way(0, 5, 10), -2);
    }

    private static void heightByWet() {
        KerbBall x = street(Made.SHARP);
        int[][] waysByWet = {{4, 5, 2, 1, 1, 0}, {7, 5, 3, 2, 2, 2}, {8, 5, 3, 3, 2, 2}, {9, 5, 3, 3, 3, 2}, {9, 4, 3, 2, 2, 2},
            {7, 4, 2, 2, 1, 1}};
        for (int wet = 0; wet <= 3; wet++) {
            x.wet(wet);
            for (int[] w : waysByWet) {
                doc.same("f " + w[0] + ", s " + w[1] + ", WET " + wet, x.way(0, w[0], w[1]), w[2 + wet]);
            }
        }
    }

    // ---- KINDS

    private static void kinds() {
        doc.says("0 SHARP: 14 to 16; f and s.", () -> kind(Made.SHARP, 14, 16, (f, s) -> f + s));
        doc.says("1 ROUND (under SHARP): 1 fewer above (to 15); 2 less than SHARP.", () -> kind(Made.ROUND, 14, 15, (f, s) -> f + s - 2));
        doc.says("2 DOWN (under ROUND): both 4 lower than ROUND; as ROUND.", () -> kind(Made.DOWN, 10, 11, (f, s) -> f + s - 2));
        doc.says("3 WORN (under ROUND): 1 more below than ROUND; half of ROUND (cut).",
                () -> kind(Made.WORN, 13, 15, (f, s) -> (f + s - 2) / 2));
        doc.says("4 HIGH (under SHARP): both 3 higher; 1 more than SHARP.", () -> kind(Made.HIGH, 17, 19, (f, s) -> f + s + 1));
        doc.says("5 SLOPED (under DOWN): as DOWN; 2 more than DOWN.", () -> kind(Made.SLOPED, 10, 11, (f, s) -> f + s));
        doc.says("(YARDS are 0 at least.)", ThrowBoundsTest::yardsNeverBelow0);
    }

    /** One below the lowest HEIGHT, the lowest, the highest, one above: every THROW of these HEIGHTS. */
    private static void kind(int kind, int low, int high, IntBinaryOperator yards) {
        KerbBall x = street(kind);
        int seen = 0;
        for (int wet = 0; wet <= 3; wet++) {
            x.wet(wet);
            for (int f = wet + 2; f <= 9; f++) {
                for (int height = low - 1; height <= high + 1; height++) {
                    int twice = height - f + wet;
                    if (twice % 2 == 0 && twice >= 0 && twice <= 18) {
                        int s = twice / 2;
                        int way = height < low ? Made.FRONT : height > high ? Made.TOP : Made.EDGE;
                        int back = way == Made.FRONT ? f / 2 : way == Made.TOP ? 0 : yards.applyAsInt(f, s);
                        doc.same("way at HEIGHT " + height + ", f " + f + ", WET " + wet, x.way(0, f, s), way);
                        doc.same("back at HEIGHT " + height + ", f " + f + ", WET " + wet, x.back(0, f, s), back);
                        seen++;
                    }
                }
            }
        }
        doc.checks.isTrue(doc.of("some are asked"), seen > 40);
    }

    private static void yardsNeverBelow0() {
        for (int kind = 0; kind <= 5; kind++) {
            for (int wet = 0; wet <= 3; wet++) {
                KerbBall x = Made.wetStreet(wet, kind);
                for (int f = 1; f <= 9; f++) {
                    for (int s = 0; s <= 9; s++) {
                        doc.checks.isTrue(doc.of(kind + " " + f + " " + s), x.back(0, f, s) >= 0);
                    }
                }
            }
        }
    }

    // ---- WAYS

    private static void ways() {
        doc.says("A THROW falls SHORT if f less WET is below 2;", ThrowBoundsTest::shortByWet);
        doc.says("or the FRONT below it (it comes BACK half of f, cut)", ThrowBoundsTest::fronts);
        doc.says("or the TOP above it (it is his ball: 0 YARDS).", ThrowBoundsTest::tops);
        doc.says("WAYS: 0 SHORT, 1 FRONT, 2 EDGE, 3 TOP.", ThrowBoundsTest::allWays);
    }

    private static void shortByWet() {
        for (int kind = 0; kind <= 5; kind++) {
            KerbBall x = street(kind);
            for (int wet = 0; wet <= 3; wet++) {
                x.wet(wet);
                for (int s = 0; s <= 9; s++) {
                    doc.same("f less WET is 1, s " + s, x.way(0, wet + 1, s), Made.SHORT);
                    doc.same("it stays there, s " + s, x.back(0, wet + 1, s), 0);
                    doc.checks.isTrue(doc.of("f less WET is 2, s " + s), x.way(0, wet + 2, s) != Made.SHORT);
                }
            }
            doc.same("f less WET is -2", x.way(0, 1, 9), Made.SHORT);
        }
    }

    private static void fronts() {
        KerbBall x = street(Made.SHARP, Made.HIGH);
        int[] backs = {-1, -1, 1, 1, 2, 2, 3, 3, 4, 4};
        for (int f = 2; f <= 9; f++) {
            doc.same("f " + f, x.back(0, f, 0), backs[f]);
            doc.same("f " + f + ", HIGH", x.back(1, f, 3), backs[f]);
        }
        x.wet(3);
        doc.same("WET is not in it", x.back(0, 9, 0), 4);
        doc.same("WET is not in it, odd", x.back(0, 5, 1), 2);
        // f 9 with a slip is 10 of a force: half of it is 5
        x.wet(0);
        doc.same("half of 10", x.judge(0, 9, 0, 5), 1);
        doc.same("half of 9 and of 8", x.judge(0, 9, 0, 4), 1);
        doc.same("no half of 11", x.judge(0, 9, 0, 6), -3);
    }

    private static void tops() {
        KerbBall x = street(0, 1, 2, 3, 4, 5);
        for (int stone = 0; stone <= 5; stone++) {
            doc.same("way", x.way(stone, 9, 9), Made.TOP);
            doc.same("back", x.back(stone, 9, 9), 0);
            for (int y = 0; y <= 20; y++) {
                doc.same("no points at " + y, x.points(stone, 9, 9, y), 0);
            }
        }
    }

    private static void allWays() {
        KerbBall x = street(Made.SHARP);
        doc.same("SHORT", x.way(0, 1, 7), 0);
        doc.same("FRONT", x.way(0, 3, 5), 1);
        doc.same("EDGE", x.way(0, 4, 5), 2);
        doc.same("TOP", x.way(0, 7, 5), 3);
        int[] odds = {0, 3, 10, 3};
        for (int way = 0; way <= 3; way++) {
            doc.same("odds of " + way, x.odds(0, 5, 5, way), odds[way]);
        }
        Twins.bad(doc.checks, doc.of("way -1"), Made::busy, y -> y.odds(0, 5, 5, -1));
        Twins.bad(doc.checks, doc.of("way 4"), Made::busy, y -> y.odds(0, 5, 5, 4));
    }

    // ---- SLIPS

    private static void slips() {
        doc.says("SLIPS: f is 1 less, so, 1 more in 1, 2, 1 of 4 cases, s likewise, apart: of 16 cases.", () -> {
            slipsOfForce();
            slipsOfSteepness();
            sixteenInAll();
        });
    }

    /** f of 0 falls SHORT as 1 does, f of 10 strikes with its own HEIGHT: neither is cut to 1 .. 9. */
    private static void slipsOfForce() {
        KerbBall x = street(Made.DOWN);
        doc.same("f 0 and f 1 are SHORT", x.odds(0, 1, 0, 0), 12);
        doc.same("f 2 is none", x.odds(0, 1, 0, 1), 4);
        // f 8, s 1: 10; f 9, s 1: 11 (2 cases); f 10, s 0: 10 (2 cases); f 10, s 1: 12
        doc.same("an EDGE by f 10", x.odds(0, 9, 0, 2), 5);
        doc.same("a TOP by f 10", x.odds(0, 9, 0, 3), 1);
        // f 8, s 1 comes back 7; f 9, s 1: 8; f 10, s 0: 8
        doc.same("POINTS by f 10", x.mean(0, 9, 0, 9), 4 * 10 + 5);
        doc.same("it comes back 8", x.judge(0, 9, 0, 8), 1);
        doc.same("an edge in all of them", x.part(0) + x.part(1), 2);
    }

    /** s of -1 lowers the HEIGHT by 2 below s of 0, s of 10 raises it above s of 9: neither is cut to 0 .. 9. */
    private static void slipsOfSteepness() {
        KerbBall x = street(Made.DOWN);
        // f 10, s -1 is HEIGHT 8, a FRONT; were it s 0, it'd be an EDGE
        doc.same("a FRONT by s -1", x.odds(0, 9, 0, 1), 10);
        KerbBall y = street(Made.HIGH);
        // f 1 and 2, s 8, 9 and 10: of f 2 the HEIGHTS are 18, 20 and 22: EDGE, TOP, TOP
        doc.same("an EDGE by s 8", y.odds(0, 1, 9, 2), 1);
        doc.same("a TOP by s 9, s 10", y.odds(0, 1, 9, 3), 3);
        doc.same("SHORT by f 0, f 1", y.odds(0, 1, 9, 0), 12);
    }

    private static void sixteenInAll() {
        for (int kind = 0; kind <= 5; kind++) {
            for (int f = 1; f <= 9; f++) {
                KerbBall x = street(kind);
                for (int s = 0; s <= 9; s++) {
                    int sum = x.odds(0, f, s, 0) + x.odds(0, f, s, 1) + x.odds(0, f, s, 2) + x.odds(0, f, s, 3);
                    doc.same(kind + " " + f + " " + s, sum, 16);
                }
            }
        }
    }

    // ---- STANDS

    private static void stands() {
        doc.says("STAND at y YARDS (0 .. 20)", ThrowBoundsTest::endsOfStands);
        doc.says("an EDGE is CAUGHT (10 points) if it comes BACK y less 1 to y and 1 YARDS, BOUNCED (5) if fewer, "
                + "but y less 4 at least.", ThrowBoundsTest::caughtAndBounced);
        doc.says("POINTS of it with a STAND: of all 16 together.", ThrowBoundsTest::pointsOfAll16);
    }

    private static void endsOfStands() {
        Twins.bad(doc.checks, doc.of("points at -1"), Made::busy, x -> x.points(0, 5, 5, -1));
        Twins.bad(doc.checks, doc.of("points at 21"), Made::busy, x -> x.points(0, 5, 5, 21));
        Twins.bad(doc.checks, doc.of("mean at -1"), Made::busy, x -> x.mean(0, 5, 5, -1));
        Twins.bad(doc.checks, doc.of("mean at 21"), Made::busy, x -> x.mean(0, 5, 5, 21));
        // in WET 3 the HEIGHT of f 9, s 6 is 18: an EDGE of HIGH that comes back 16
        KerbBall x = Made.wetStreet(3, Made.HIGH, Made.WORN);
        doc.same("the farthest stand bounces 16", x.points(0, 9, 6, 20), 5);
        doc.same("and of slips 16 and 17", x.mean(0, 9, 6, 20), 8 * 5);
        x.wet(0);
        // f 2, s 6 is HEIGHT 14 of WORN: comes back 3
        doc.same("the nearest stand", x.points(1, 2, 6, 0), 0);
        doc.same("stand 1", x.points(1, 2, 6, 1), 0);
        doc.same("stand 2", x.points(1, 2, 6, 2), 10);
        doc.same("the nearest, of all 16", x.mean(1, 2, 6, 0), 0);
        doc.same("the farthest, of a near edge", x.points(1, 2, 6, 20), 0);
    }

    /** Each YARDS that an EDGE may come back, from each stand. */
    private static void caughtAndBounced() {
        int[] due = {0, 10, 10, 10, 5, 5, 5, 0};
        // what comes back 3 to 16 YARDS, as WET, kind, f, s
        int[][] edges = {{0, 3, 3, 5, 3}, {0, 3, 7, 3, 4}, {0, 2, 4, 3, 5}, {0, 2, 6, 2, 6}, {0, 1, 4, 5, 7}, {0, 1, 6, 4, 8},
            {0, 0, 4, 5, 9}, {0, 0, 6, 4, 10}, {0, 0, 6, 5, 11}, {0, 0, 8, 4, 12}, {0, 4, 7, 5, 13}, {0, 4, 9, 4, 14},
            {0, 4, 9, 5, 15}, {3, 4, 9, 6, 16}};
        for (int[] e : edges) {
            KerbBall x = Made.wetStreet(e[0], e[1]);
            doc.same("it comes back", x.back(0, e[2], e[3]), e[4]);
            for (int y = 0; y <= 20; y++) {
                int place = y - e[4] + 2;
                doc.same("comes back " + e[4] + ", stand " + y, x.points(0, e[2], e[3], y),
                        place >= 0 && place < due.length ? due[place] : 0);
            }
        }
    }

    private static void pointsOfAll16() {
        for (int kind = 0; kind <= 5; kind++) {
            KerbBall x = street(kind);
            for (int y = 0; y <= 20; y++) {
                int sum = 0;
                for (int f = 4; f <= 6; f++) {
                    for (int s = 3; s <= 5; s++) {
                        sum += (f == 5 ? 2 : 1) * (s == 4 ? 2 : 1) * x.points(0, f, s, y);
                    }
                }
                doc.same(kind + " at " + y, x.mean(0, 5, 4, y), sum);
            }
        }
    }

    // ---- BEST, LINE

    private static void bests() {
        doc.says("BEST: of all STONES, f (1 .. 9), s (0 .. 9), STANDS (0 .. 20) that by which POINTS are most, of like ones the "
                + "first (in this order); of one STONE alone likewise.", () -> {
            bestOfEachKind();
            firstOfLikeStones();
        });
        doc.says("NONE: no STONES. BAD: -10.", ThrowBoundsTest::bestOfNone);
        doc.says("LINE: the STANDS (bits) by which POINTS of a THROW are most.", ThrowBoundsTest::lines);
    }

    private static void bestOfEachKind() {
        for (int kind = 0; kind <= 5; kind++) {
            for (int wet = 0; wet <= 3; wet++) {
                int[] due = {0, 0, 0, 0, 0};
                for (int f = 1; f <= 9; f++) {
                    bestOfForce(due, kind, wet, f);
                }
                KerbBall x = Made.wetStreet(wet, kind);
                for (int what = 0; what <= 4; what++) {
                    doc.same("of kind " + kind + ", WET " + wet + ": " + what, x.best(0, what), due[what]);
                    doc.same("of all, kind " + kind + ", WET " + wet + ": " + what, x.best(-1, what), due[what]);
                }
            }
        }
    }

    private static void bestOfForce(int[] found, int kind, int wet, int f) {
        KerbBall x = Made.wetStreet(wet, kind);
        for (int s = 0; s <= 9; s++) {
            for (int y = 0; y <= 20; y++) {
                int sum = x.mean(0, f, s, y);
                if (sum > found[0]) {
                    found[0] = sum;
                    found[2] = f;
                    found[3] = s;
                    found[4] = y;
                }
            }
        }
    }

    private static void firstOfLikeStones() {
        KerbBall x = street(5, 5, 5, 5, 5, 5, 5, 5);
        doc.same("the first of 8 alike", x.best(-1, 1), 0);
        doc.same("the last of them, alone", x.best(7, 1), 7);
        // SHARP and WORN have 100, f 3, s 6 and f 3, s 5; ROUND has less: the first stone goes ahead of the lower f or s
        KerbBall y = street(Made.ROUND, Made.SHARP, Made.WORN);
        doc.same("the first of like POINTS", y.best(-1, 1), 1);
        KerbBall z = street(Made.ROUND, Made.WORN, Made.SHARP);
        doc.same("the first of like POINTS, the other way round", z.best(-1, 1), 1);
        doc.same("its stand", z.best(-1, 4), 3);
        KerbBall last = street(1, 1, 1, 1, 1, 1, 1, 0);
        doc.same("the last may be the best", last.best(-1, 1), 7);
    }

    private static void bestOfNone() {
        for (int what = 0; what <= 4; what++) {
            int w = what;
            Twins.changesNothing(doc.checks, doc.of("of no STONES: " + w), Made::empty, -1, x -> x.best(-1, w));
        }
        Twins.refused(doc.checks, doc.of("what 5 of no STONES"), Made::empty, Twins.BAD, -10, x -> x.best(-1, 5));
        Twins.refused(doc.checks, doc.of("what -1 of no STONES"), Made::empty, Twins.BAD, -10, x -> x.best(-1, -1));
        Twins.refused(doc.checks, doc.of("stone -2"), Made::empty, Twins.BAD, -10, x -> x.best(-2, 0));
        Twins.refused(doc.checks, doc.of("stone 3 of 3"), Made::busy, Twins.BAD, -10, x -> x.best(3, 0));
        KerbBall x = street(Made.SHARP);
        x.read();
        doc.same("no STONES any more", x.best(-1, 0), -1);
    }

    private static void lines() {
        KerbBall x = Made.wetStreet(3, Made.HIGH);
        // of f 9, s 6 by slips: 15 (2 cases), 16 (6), 17 (2): all of them caught at 16 alone
        doc.same("the highest edges", x.line(0, 9, 6), 1 << 16);
        doc.same("no EDGE at all: stands 0 to 20", x.line(0, 1, 0), (1 << 21) - 1);
        x.wet(0);
        doc.same("the TOP alone: stands 0 to 20", x.line(0, 9, 9), (1 << 21) - 1);
        KerbBall y = street(Made.WORN);
        // f 2, s 6 by slips: f 3, s 5 comes back 3 (1 case), f 2, s 6: 3 (4), f 3, s 6: 3 (2); f 1 is SHORT, the others FRONT, TOP
        doc.same("the nearest edges", y.line(0, 2, 6), 1 << 2 | 1 << 3 | 1 << 4);
    }
}
