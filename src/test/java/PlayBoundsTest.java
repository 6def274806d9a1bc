import java.io.IOException;
import java.math.BigInteger;

/** The sentences about playing, images, STATUS, THE FRACTION and refusals that name a bound, each with a test of its own. */
public final class PlayBoundsTest {
    private static Sentences doc;

    public static void main(String[] args) throws IOException {
        doc = new Sentences("bounds of playing and of what there is");
        playing();
        undoing();
        images();
        status();
        fractions();
        refusals();
        counts();
        doc.end();
    }

    // ---- PLAYING

    private static void playing() {
        doc.says("two players (0, 1), 0 is on at first, points 0", PlayBoundsTest::twoPlayers);
        doc.says("a THROW with told SLIPS (-1 .. 1 each, added to f, s) and a STAND", PlayBoundsTest::toldSlips);
        doc.says("points of who is on, then the other one is on.", PlayBoundsTest::byTurns);
    }

    private static void twoPlayers() {
        KerbBall x = new KerbBall();
        doc.same("on", x.on(), 0);
        doc.same("points of 0", x.score(0), 0);
        doc.same("points of 1", x.score(1), 0);
        Twins.bad(doc.checks, doc.of("player -1"), Made::full, y -> y.score(-1));
        Twins.bad(doc.checks, doc.of("player 2"), Made::full, y -> y.score(2));
        Twins.bad(doc.checks, doc.of("player 2 of a new object"), Made::empty, y -> y.score(2));
    }

    private static void toldSlips() {
        // SHARP, f 5, s 5 from stand 12 by slips of f, s: FRONT, 9, 10; FRONT, 10, TOP; 10, 11, TOP
        int[][] due = {{0, 5, 5}, {0, 5, 0}, {5, 10, 0}};
        for (int slipF = -2; slipF <= 2; slipF++) {
            for (int slipS = -2; slipS <= 2; slipS++) {
                int f = slipF;
                int s = slipS;
                if (Math.abs(f) <= 1 && Math.abs(s) <= 1) {
                    doc.same(f + ", " + s, Made.street(0).play(0, 5, 5, 12, f, s), due[f + 1][s + 1]);
                } else {
                    Twins.bad(doc.checks, doc.of(f + ", " + s), Made::busy, y -> y.play(0, 5, 5, 12, f, s));
                }
            }
        }
        KerbBall x = Made.street(Made.DOWN);
        doc.same("f 9 and 1", x.play(0, 9, 0, 8, 1, 0), 10);
        doc.same("f 9 and 1, s 0 less 1", x.play(0, 9, 0, 8, 1, -1), 0);
        doc.same("f 1 less 1 is SHORT", x.play(0, 1, 5, 5, -1, 0), 0);
        doc.same("s 9 and 1 is the TOP", x.play(0, 9, 9, 5, 0, 1), 0);
        doc.same("f 10 itself is not told", x.play(0, 10, 0, 8, 0, 0), -2);
        doc.same("f 0 itself is not told", x.play(0, 0, 5, 8, 1, 0), -2);
        doc.same("s 10 itself is not told", x.play(0, 5, 10, 8, 0, -1), -2);
        doc.same("s -1 itself is not told", x.play(0, 5, -1, 8, 0, 1), -2);
        doc.same("four were played", x.count(2), 4);
        Twins.bad(doc.checks, doc.of("stand -1"), Made::busy, y -> y.play(0, 5, 5, -1, 0, 0));
        Twins.bad(doc.checks, doc.of("stand 21"), Made::busy, y -> y.play(0, 5, 5, 21, 0, 0));
    }

    private static void byTurns() {
        KerbBall x = Made.street(Made.SHARP);
        int[] sums = {0, 0};
        for (int i = 0; i < 100; i++) {
            int due = i % 3 == 0 ? 0 : i % 3 == 1 ? 10 : 5;
            doc.same("who is on", x.on(), i % 2);
            doc.same("points", x.play(0, 5, 5, i % 3 == 0 ? 20 : i % 3 == 1 ? 10 : 13, 0, 0), due);
            sums[i % 2] += due;
            doc.same("who is on behind it, with points or none", x.on(), 1 - i % 2);
            doc.same("a refused one", x.play(0, 5, 5, 21, 0, 0), -2);
        }
        doc.same("points of 0", x.score(0), sums[0]);
        doc.same("points of 1", x.score(1), sums[1]);
    }

    // ---- UNDO

    private static void undoing() {
        doc.says("UNDO: points, and who is on, are as ahead of the last one (10 at most; a STONE told leaves it).", () -> {
            tenAtMost();
            asAhead();
            stoneLeavesIt();
        });
        doc.says("UNDO: 1. NO: none may be.", PlayBoundsTest::noneMayBeUndone);
    }

    private static KerbBall played(int many) {
        KerbBall x = Made.street(Made.SHARP);
        for (int i = 0; i < many; i++) {
            x.play(0, 5, 5, pointsOf(i) == 10 ? 10 : pointsOf(i) == 5 ? 13 : 20, 0, 0);
        }
        return x;
    }

    private static int pointsOf(int i) {
        return i % 5 == 0 ? 10 : i % 5 == 3 ? 0 : 5;
    }

    private static int sum(int plays, int player) {
        int sum = 0;
        for (int i = player; i < plays; i += 2) {
            sum += pointsOf(i);
        }
        return sum;
    }

    /** 0 to 25 plays: as many as 10 are undone, one by one, and no more. */
    private static void tenAtMost() {
        for (int many = 0; many <= 25; many++) {
            KerbBall x = played(many);
            int least = Math.max(0, many - 10);
            doc.same(many + " plays: may be undone", x.count(2), many - least);
            for (int left = many - 1; left >= least; left--) {
                doc.same(many + " plays: undone to " + left, x.undo(), 1);
                seen(x, many + " plays, undone to " + left, left);
                doc.same("how many more", x.count(2), left - least);
            }
            doc.same(many + " plays: one more", x.undo(), -3);
            seen(x, many + " plays, one more", least);
        }
    }

    private static void seen(KerbBall x, String what, int plays) {
        doc.same(what + ": points of 0", x.score(0), sum(plays, 0));
        doc.same(what + ": points of 1", x.score(1), sum(plays, 1));
        doc.same(what + ": who is on", x.on(), plays % 2);
    }

    private static void asAhead() {
        KerbBall x = played(12);
        doc.same("three undone", x.undo() + x.undo() + x.undo(), 3);
        doc.same("7 more may be", x.count(2), 7);
        for (int i = 0; i < 3; i++) {
            doc.same("a miss", x.play(0, 9, 9, 0, 0, 0), 0);
        }
        doc.same("10 may be again", x.count(2), 10);
        x.play(0, 9, 9, 0, 0, 0);
        doc.same("no more than 10", x.count(2), 10);
        for (int i = 0; i < 4; i++) {
            doc.same("the misses are undone", x.undo(), 1);
        }
        seen(x, "as ahead of them", 9);
        for (int i = 0; i < 6; i++) {
            doc.same("six of those ahead of them", x.undo(), 1);
        }
        seen(x, "as ahead of those", 3);
        doc.same("no more", x.undo(), -3);
    }

    private static void stoneLeavesIt() {
        KerbBall x = played(11);
        doc.same("a stone", x.stone(Made.WORN), 1);
        doc.same("what may be undone", x.count(2), 10);
        seen(x, "points as they were", 11);
        doc.same("undone", x.undo(), 1);
        seen(x, "one undone", 10);
        doc.same("the stone stays", x.count(0), 2);
        x.wet(3);
        x.write(0, 1, 1, 1, 1, 5);
        doc.same("undone", x.undo(), 1);
        doc.same("WET stays", x.count(1), 3);
        doc.same("THE BOOK stays", x.count(4), 1);
        for (int i = 0; i < 6; i++) {
            x.stone(Made.SHARP);
        }
        doc.same("8 stones", x.count(0), 8);
        doc.same("a 9th is refused", x.stone(0), -4);
        doc.same("8 more may be undone", x.count(2), 8);
    }

    private static void noneMayBeUndone() {
        Twins.refused(doc.checks, doc.of("of a new object"), Made::empty, Twins.NO, -3, x -> x.undo());
        Twins.refused(doc.checks, doc.of("of a street where none has played"), () -> Made.street(0, 1), Twins.NO, -3, x -> x.undo());
        Twins.refused(doc.checks, doc.of("once all is undone"), PlayBoundsTest::allUndone, Twins.NO, -3, x -> x.undo());
        Twins.refused(doc.checks, doc.of("once a STREET is read"), PlayBoundsTest::readAnew, Twins.NO, -3, x -> x.undo());
        KerbBall x = played(1);
        x.play(0, 10, 5, 5, 0, 0);
        doc.same("a refused play is none: the first is undone", x.undo(), 1);
        doc.same("a refused play is none", x.undo(), -3);
    }

    private static KerbBall allUndone() {
        KerbBall x = played(3);
        x.undo();
        x.undo();
        x.undo();
        return x;
    }

    private static KerbBall readAnew() {
        KerbBall x = played(3);
        x.read();
        return x;
    }

    // ---- IMAGES

    private static void images() {
        doc.says("IMAGES 0, 1 keep all but them, THE TEXT, THE FRACTION and STATUS", () -> {
            keepAll();
            allButThem();
        });
        doc.says("what may be undone they keep; it goes on from one.", PlayBoundsTest::keepWhatMayBeUndone);
        doc.says("It goes on from an IMAGE: 1. BAD; NO: none was kept.", PlayBoundsTest::noneWasKept);
        doc.says("An IMAGE is kept: 1. BAD.", PlayBoundsTest::imagesByNumber);
    }

    /** What an image keeps stands against all that is done behind it. */
    private static void keepAll() {
        for (int i = 0; i <= 1; i++) {
            KerbBall x = Made.full();
            doc.same("kept", x.image(i), 1);
            x.tear();
            x.wet(0);
            x.clear();
            x.read();
            x.stone(0);
            x.play(0, 5, 5, 10, 0, 0);
            x.write(0, 1, 1, 1, 1, 0);
            doc.same("goes on", x.from(i), 1);
            KerbBall due = Made.full();
            due.image(i);
            due.clear();
            Twins.alike(doc.checks, doc.of("image " + i), x, due);
        }
        KerbBall y = new KerbBall();
        y.image(0);
        doc.same("an image of nothing", y.stone(0) + y.wet(2) + y.write(0, 1, 1, 1, 1, 0), 1);
        y.play(0, 5, 5, 10, 0, 0);
        doc.same("goes on from nothing", y.from(0), 1);
        for (int what = 0; what <= 4; what++) {
            doc.same("count " + what, y.count(what), 0);
        }
        doc.same("points, who is on", y.score(0) + y.score(1) + y.on(), 0);
        doc.same("nothing may be undone", y.undo(), -3);
    }

    private static void allButThem() {
        KerbBall x = Made.street(0);
        x.image(0);
        x.stone(1);
        x.image(1);
        x.stone(2);
        doc.same("from 0", x.from(0), 1);
        doc.same("its stones", x.count(0), 1);
        doc.same("image 1 is not of what image 0 keeps: it's there still", x.from(1), 1);
        doc.same("as it was kept", x.count(0), 2);
        Made.type(x, "stone 1;");
        x.image(0);
        Made.type(x, "wet 1;");
        x.cars(3, 3, 3);
        x.stone(9);
        x.undo();
        x.type(0, 0);
        long above = x.part(0);
        int bad = x.status(0);
        int no = x.status(1);
        x.from(0);
        doc.same("THE TEXT is as it is", x.count(3), 14);
        doc.same("THE FRACTION is as it is, above", x.part(0), above);
        doc.same("THE FRACTION is as it is, below", x.part(1), 100);
        doc.same("BAD as it is", x.status(0), bad);
        doc.same("NO as it is", x.status(1), no);
        doc.same("THE TEXT as it is can be read", x.read(), 2);
    }

    private static void keepWhatMayBeUndone() {
        KerbBall x = played(12);
        x.image(0);
        for (int i = 0; i < 10; i++) {
            x.undo();
        }
        x.image(1);
        doc.same("none may be", x.count(2), 0);
        x.from(0);
        doc.same("10 may be", x.count(2), 10);
        seen(x, "as it was", 12);
        for (int i = 1; i <= 10; i++) {
            doc.same("undone", x.undo(), 1);
            seen(x, "undone to " + (12 - i), 12 - i);
        }
        doc.same("and no more", x.undo(), -3);
        x.from(1);
        doc.same("none of the other", x.undo(), -3);
        x.from(0);
        x.play(0, 9, 9, 9, 0, 0);
        x.from(0);
        doc.same("what is played behind it is not kept", x.count(2), 10);
        seen(x, "as it was, again", 12);
    }

    private static void noneWasKept() {
        for (int i = 0; i <= 1; i++) {
            int told = i;
            Twins.refused(doc.checks, doc.of("of a new object, " + i), Made::empty, Twins.NO, -3, x -> x.from(told));
            Twins.refused(doc.checks, doc.of("the other one was kept, not " + i), () -> keptOne(1 - told), Twins.NO, -3, x -> x.from(told));
        }
        Twins.bad(doc.checks, doc.of("-1: none was kept, BAD goes first"), Made::empty, x -> x.from(-1));
        Twins.bad(doc.checks, doc.of("2: none was kept, BAD goes first"), Made::empty, x -> x.from(2));
        Twins.bad(doc.checks, doc.of("2, where both were kept"), Made::full, x -> x.from(2));
    }

    private static KerbBall keptOne(int i) {
        KerbBall x = played(4);
        x.image(i);
        x.play(0, 5, 5, 10, 0, 0);
        return x;
    }

    private static void imagesByNumber() {
        Twins.bad(doc.checks, doc.of("-1"), Made::full, x -> x.image(-1));
        Twins.bad(doc.checks, doc.of("2"), Made::full, x -> x.image(2));
        KerbBall x = new KerbBall();
        doc.same("2 keeps none", x.image(2), -2);
        doc.same("none was kept", x.from(0) + x.from(1), -6);
        doc.same("0", x.image(0), 1);
        doc.same("1", x.image(1), 1);
        x.stone(0);
        doc.same("0 once more, over the old one", x.image(0), 1);
        x.stone(0);
        doc.same("from 0", x.from(0), 1);
        doc.same("the newer one", x.count(0), 1);
        doc.same("from 1", x.from(1), 1);
        doc.same("it is as it was", x.count(0), 0);
    }

    // ---- STATUS

    private static void status() {
        doc.says("STATUS: how many calls were refused as BAD, NO, FULL (each answer told so below is such a one).", () -> {
            answersOfTheirOwn();
            manyRefused();
        });
        doc.says("-1: another what (counts as BAD).", PlayBoundsTest::anotherWhat);
    }

    private static void answersOfTheirOwn() {
        Twins.refused(doc.checks, doc.of("best -10"), Made::full, Twins.BAD, -10, x -> x.best(0, 5));
        Twins.refused(doc.checks, doc.of("wins -100"), Made::full, Twins.BAD, -100, x -> x.wins(0, 0, 0, 0, 0, 0));
        Twins.refused(doc.checks, doc.of("sides -1000"), Made::full, Twins.BAD, -1000, x -> x.sides(0));
        Twins.refused(doc.checks, doc.of("status -1"), Made::full, Twins.BAD, -1, x -> x.status(3));
        Twins.changesNothing(doc.checks, doc.of("NONE of best is none"), Made::empty, -1, x -> x.best(-1, 0));
        Twins.changesNothing(doc.checks, doc.of("NONE of book is none"), Made::empty, -1, x -> x.book(0));
        Twins.changesNothing(doc.checks, doc.of("NONE of hours is none"), Made::empty, -1, x -> x.hours(1));
        Twins.changesNothing(doc.checks, doc.of("a FAULT is none"), () -> faulty(), -13, x -> x.read());
    }

    private static KerbBall faulty() {
        KerbBall x = Made.busy();
        x.clear();
        Made.type(x, "wet;");
        return x;
    }

    private static void manyRefused() {
        KerbBall x = Made.full();
        int[] before = {x.status(0), x.status(1), x.status(2)};
        doc.same("none refused yet", before[0] + before[1] + before[2], 0);
        for (int i = 1; i <= 100; i++) {
            x.stone(i % 2 == 0 ? 0 : 6);
            x.judge(0, 5, 5, i % 2 == 0 ? 30 : 31);
        }
        doc.same("BAD", x.status(0), 100);
        doc.same("NO", x.status(1), 50);
        doc.same("FULL", x.status(2), 50);
    }

    private static void anotherWhat() {
        int[] others = {-1, 3, 4, Integer.MIN_VALUE, Integer.MAX_VALUE};
        for (int what : others) {
            Twins.refused(doc.checks, doc.of("what " + what), Made::busy, Twins.BAD, -1, x -> x.status(what));
        }
        KerbBall x = new KerbBall();
        for (int i = 0; i < 5; i++) {
            doc.same("each time", x.status(3), -1);
        }
        doc.same("BAD", x.status(0), 5);
        doc.same("NO", x.status(1), 0);
        doc.same("FULL", x.status(2), 0);
    }

    // ---- THE FRACTION

    private static void fractions() {
        doc.says("THE FRACTION is 0 by 1 at first; lowest terms, below above 0.", () -> {
            firstFraction();
            lowestTerms();
        });
        doc.says("THE FRACTION: above (0), below (1). BAD.", PlayBoundsTest::partsOfIt);
    }

    private static void firstFraction() {
        KerbBall x = new KerbBall();
        doc.same("above", x.part(0), 0);
        doc.same("below", x.part(1), 1);
        x.middle(-1, 0, 0);
        x.lot(0, 0, 0, 0);
        doc.same("above, behind refused ones", x.part(0), 0);
        doc.same("below, behind refused ones", x.part(1), 1);
    }

    private static void lowestTerms() {
        KerbBall x = Made.street(Made.SHARP);
        for (int k = 0; k <= 40; k += 5) {
            for (int c = 0; c <= 10; c++) {
                x.cars(k, c, 4);
                BigInteger above = BigInteger.valueOf(4L * k * c);
                BigInteger shared = above.gcd(BigInteger.valueOf(100));
                doc.same("above", x.part(0), above.divide(shared).longValue());
                doc.same("below", x.part(1), BigInteger.valueOf(100).divide(shared).longValue());
            }
        }
        x.twofold(20, 8, 1, 1);
        doc.same("0 has 1 below", x.part(1), 1);
        x.middle(0, 6, 0);
        doc.same("0 has 1 below, the middle", x.part(1), 1);
        x.both(4, 0, 0, 0, 0);
        doc.same("0 has 1 below, both", x.part(1), 1);
        x.judge(0, 9, 9, 0);
        doc.same("0 has 1 below, an edge by back", x.part(1), 1);
        x.lot(12, 12, 12, 12);
        doc.same("1 has 1 below", x.part(1), 1);
        // by lot: below is 256 times what is lost or won by the picks, and never below 0
        for (int p = 0; p <= 16; p += 4) {
            for (int q = 0; q <= 16; q += 4) {
                x.both(0, p, q, 16 - p, q);
                doc.checks.isTrue(doc.of("below above 0"), x.part(1) > 0 && x.part(0) >= 0 && x.part(0) <= x.part(1));
            }
        }
    }

    private static void partsOfIt() {
        KerbBall x = new KerbBall();
        x.twofold(8, 8, 1, 0);
        doc.same("above", x.part(0), 1);
        doc.same("below: more than an int holds", x.part(1), 4294967296L);
        Twins.bad(doc.checks, doc.of("-1"), Made::busy, y -> y.part(-1));
        Twins.bad(doc.checks, doc.of("2"), Made::busy, y -> y.part(2));
    }

    // ---- refusals

    private static void refusals() {
        doc.says("Refused, changing nothing but STATUS, the first of: BAD -2 a number is not as told; NO -3 as told; FULL -4",
                PlayBoundsTest::firstOfRefusals);
        doc.says("(where others are told they count as these)", PlayBoundsTest::answersOfTheirOwn);
    }

    private static void firstOfRefusals() {
        Twins.bad(doc.checks, doc.of("stone: BAD ahead of FULL"), Made::full, x -> x.stone(6));
        Twins.bad(doc.checks, doc.of("stone: BAD ahead of FULL"), Made::full, x -> x.stone(-1));
        Twins.bad(doc.checks, doc.of("type: BAD ahead of FULL"), Made::full, x -> x.type(0, 9));
        Twins.bad(doc.checks, doc.of("write: BAD ahead of FULL, stone"), Made::full, x -> x.write(8, 5, 5, 5, 4, 5));
        Twins.bad(doc.checks, doc.of("write: BAD ahead of FULL, points"), Made::full, x -> x.write(0, 5, 5, 5, 4, 7));
        Twins.bad(doc.checks, doc.of("judge: BAD ahead of NO"), Made::full, x -> x.judge(0, 9, 9, 31));
        Twins.bad(doc.checks, doc.of("from: BAD ahead of NO"), Made::empty, x -> x.from(2));
        Twins.refused(doc.checks, doc.of("stone: FULL"), Made::full, Twins.FULL, -4, x -> x.stone(5));
        Twins.refused(doc.checks, doc.of("type: FULL"), Made::full, Twins.FULL, -4, x -> x.type(0x3bL, 1));
        Twins.refused(doc.checks, doc.of("write: FULL"), Made::full, Twins.FULL, -4, x -> x.write(0, 5, 5, 5, 4, 5));
        Twins.refused(doc.checks, doc.of("judge: NO"), Made::full, Twins.NO, -3, x -> x.judge(0, 9, 9, 30));
        Twins.refused(doc.checks, doc.of("from: NO"), Made::busy, Twins.NO, -3, x -> x.from(0));
        Twins.refused(doc.checks, doc.of("best of no STONES: BAD ahead of NONE"), Made::empty, Twins.BAD, -10, x -> x.best(-1, 5));
        Twins.bad(doc.checks, doc.of("hours of an empty BOOK: BAD ahead of NONE"), Made::empty, x -> x.hours(13));
    }

    // ---- count, digest, 512 calls

    private static void counts() {
        doc.says("How many: 0 STONES, 1 WET, 2 that may be undone, 3 bytes of THE TEXT, 4 THROWS of THE BOOK. BAD.",
                PlayBoundsTest::allCounts);
        doc.says("h = 823; then h = 31 h + v for each v", PlayBoundsTest::digestsWrapAround);
        doc.says("An object is used for at most 512 calls after it has been made", PlayBoundsTest::calls512);
    }

    private static void allCounts() {
        int[] full = {8, 3, 10, 120, 12};
        int[] busy = {3, 1, 2, 24, 2};
        for (int what = 0; what <= 4; what++) {
            doc.same("full, " + what, Made.full().count(what), full[what]);
            doc.same("busy, " + what, Made.busy().count(what), busy[what]);
            doc.same("new, " + what, Made.empty().count(what), 0);
        }
        Twins.bad(doc.checks, doc.of("-1"), Made::full, x -> x.count(-1));
        Twins.bad(doc.checks, doc.of("5"), Made::full, x -> x.count(5));
    }

    /** What a long holds of the sum that has no bounds. */
    private static void digestsWrapAround() {
        KerbBall x = Made.full();
        BigInteger h = BigInteger.valueOf(823);
        long[] ahead = {8, 3, 10, 120, 12, 5, 0, 3, 0, 4, 1, 2, 3, x.score(0), x.score(1), x.on()};
        for (long v : ahead) {
            h = h.multiply(BigInteger.valueOf(31)).add(BigInteger.valueOf(v));
        }
        for (int i = 0; i < 12; i++) {
            int[] row = {i % 8, 1 + i % 9, i % 10, i, i % 9, i % 3 * 5};
            for (int v : row) {
                h = h.multiply(BigInteger.valueOf(31)).add(BigInteger.valueOf(v));
            }
        }
        h = h.multiply(BigInteger.valueOf(31)).add(BigInteger.valueOf(189));
        h = h.multiply(BigInteger.valueOf(31)).add(BigInteger.valueOf(100));
        doc.checks.isTrue(doc.of("it is far beyond a long"), h.bitLength() > 64);
        doc.same("full", x.digest(), h.longValue());
        long empty = 823;
        long[] none = {0, 0, 0, 0, 0, 0, 0, 0, 0, 1};
        for (long v : none) {
            empty = 31 * empty + v;
        }
        doc.same("new", new KerbBall().digest(), empty);
    }

    private static void calls512() {
        KerbBall x = new KerbBall();
        doc.same("1st call", x.stone(0), 0);
        for (int call = 2; call <= 510; call++) {
            doc.same("call " + call, x.play(0, 5, 5, 10, 0, 0), 10);
        }
        doc.same("511th call", x.score(0), 2550);
        doc.same("512th call", x.score(1), 2540);
        KerbBall y = new KerbBall();
        for (int call = 1; call <= 511; call++) {
            y.wet(4);
        }
        doc.same("511 refused, the 512th call", y.status(0), 511);
        KerbBall z = Made.street(5, 4, 3, 2, 1, 0, 5, 4);
        for (int pair = 0; pair < 252; pair++) {
            doc.same("call " + (9 + 2 * pair), z.wet((pair + 1) % 4), pair % 4);
            doc.checks.isTrue(doc.of("call " + (10 + 2 * pair)), z.best(-1, 0) > 0);
        }
    }
}
