import java.util.function.LongSupplier;

/** Each promise by answers worked out by hand: ordinary inputs, the edges that the document names, wrong inputs. */
public final class PromiseTest {
    private static final int WRONG = 0, NOT = 1, TOO_MANY = 2;
    private static final int SHARP = Made.SHARP, ROUND = Made.ROUND, DOWN = Made.DOWN, WORN = Made.WORN, HIGH = Made.HIGH,
            SLOPED = Made.SLOPED;
    private static final Checks C = new Checks("promises");

    public static void main(String[] args) {
        newObject();
        stone();
        wet();
        typeAndClear();
        read();
        faults();
        way();
        back();
        points();
        oddsAndMean();
        best();
        line();
        middleAndStop();
        wins();
        twofold();
        cars();
        judge();
        lot();
        both();
        sidesAndWorth();
        writeAndTear();
        bookAndHours();
        evening();
        playAndUndo();
        images();
        statusCountPart();
        digest();
        C.end();
    }

    // ---- helpers

    private static KerbBall street(int... kinds) {
        return Made.street(kinds);
    }

    /** A street with some of everything, so that a refused call has much to spoil. */
    private static KerbBall busy() {
        KerbBall x = street(SHARP, DOWN);
        x.wet(1);
        Made.type(x, "wet 2;");
        x.write(0, 5, 5, 9, 4, 5);
        x.play(1, 4, 4, 5, 0, 0);
        x.middle(3, 2, 1);
        return x;
    }

    private static void refused(String what, KerbBall x, int why, long due, LongSupplier call) {
        long digest = x.digest();
        long[] status = {x.status(0), x.status(1), x.status(2)};
        C.same(what, call.getAsLong(), due);
        C.same(what + ", digest", x.digest(), digest);
        for (int i = 0; i < 3; i++) {
            C.same(what + ", status " + i, x.status(i), status[i] + (i == why ? 1 : 0));
        }
    }

    private static void bad(String what, KerbBall x, LongSupplier call) {
        refused(what, x, WRONG, -2, call);
    }

    private static void fraction(String what, KerbBall x, long answer, long above, long below) {
        C.same(what, answer, 1);
        parts(what, x, above, below);
    }

    private static void parts(String what, KerbBall x, long above, long below) {
        C.same(what + ", above", x.part(0), above);
        C.same(what + ", below", x.part(1), below);
    }

    /** What a promise of a throw refuses, told once for them all: g is the call with its stone, f and s. */
    private interface Throw {
        long at(KerbBall x, int stone, int f, int s);
    }

    private static void refusesThrows(String what, long due, Throw g) {
        int[][] wrong = {{-1, 5, 5}, {2, 5, 5}, {8, 5, 5}, {0, 0, 5}, {0, 10, 5}, {0, 5, -1}, {0, 5, 10},
            {Integer.MIN_VALUE, 5, 5}, {0, Integer.MAX_VALUE, 5}, {0, 5, Integer.MAX_VALUE}};
        for (int[] w : wrong) {
            KerbBall x = busy();
            refused(what + " " + w[0] + " " + w[1] + " " + w[2], x, WRONG, due, () -> g.at(x, w[0], w[1], w[2]));
        }
        KerbBall none = new KerbBall();
        refused(what + " without stones", none, WRONG, due, () -> g.at(none, 0, 5, 5));
        C.isTrue(what + " at its ends", g.at(busy(), 0, 1, 0) >= 0 && g.at(busy(), 1, 9, 9) >= 0);
    }

    // ---- 1 to 6

    private static void newObject() {
        KerbBall x = new KerbBall();
        for (int what = 0; what <= 4; what++) {
            C.same("1: count " + what, x.count(what), 0);
        }
        C.same("1: score 0", x.score(0), 0);
        C.same("1: score 1", x.score(1), 0);
        C.same("1: on", x.on(), 0);
        parts("1", x, 0, 1);
        C.same("1: status", x.status(0) + x.status(1) + x.status(2), 0);
        C.same("1: best", x.best(KerbBall.NONE, 0), KerbBall.NONE);
    }

    private static void stone() {
        KerbBall x = new KerbBall();
        for (int i = 0; i < 8; i++) {
            C.same("2: stone " + i, x.stone(i % 6), i);
        }
        refused("2: a 9th", x, TOO_MANY, -4, () -> x.stone(0));
        bad("2: BAD ahead of FULL", x, () -> x.stone(6));
        bad("2: kind -1", x, () -> x.stone(-1));
        KerbBall y = busy();
        bad("2: kind 6", y, () -> y.stone(6));
        C.same("2: the next one", y.stone(5), 2);
        C.same("2: many", x.count(0), 8);
    }

    private static void wet() {
        KerbBall x = new KerbBall();
        C.same("3: at first", x.wet(3), 0);
        C.same("3: was", x.wet(1), 3);
        C.same("3: now", x.count(1), 1);
        bad("3: -1", x, () -> x.wet(-1));
        bad("3: 4", x, () -> x.wet(4));
        C.same("3: as it was", x.wet(0), 1);
    }

    private static void typeAndClear() {
        KerbBall x = new KerbBall();
        C.same("4: 8 bytes", x.type(0x73746f6e6520303bL, 8), 8);
        C.same("6: one stone", x.read(), 1);
        C.same("4: the lowest bytes alone", x.type(0x7777777777333bL, 2), 10);
        C.same("6: a number where a word is due", x.read(), -18);
        C.same("5: clear", x.clear(), 10);
        C.same("5: again", x.clear(), 0);
        C.same("4: highest first", x.type(0x776574333bL, 5), 5);
        C.same("6: wet", x.read(), 1);
        C.same("6: wet is", x.count(1), 3);
        x.clear();
        bad("4: n 0", x, () -> x.type(5, 0));
        bad("4: n 9", x, () -> x.type(5, 9));
        bad("4: n -1", x, () -> x.type(5, -1));
        bad("4: n most", x, () -> x.type(5, Integer.MAX_VALUE));
        for (int i = 1; i <= 14; i++) {
            C.same("4: many", x.type(-1L, 8), 8L * i);
        }
        C.same("4: 116", x.type(-1L, 4), 116);
        refused("4: beyond 120", x, TOO_MANY, -4, () -> x.type(0, 5));
        C.same("4: to 120", x.type(0, 4), 120);
        refused("4: full", x, TOO_MANY, -4, () -> x.type(0, 1));
        bad("4: BAD ahead of FULL", x, () -> x.type(0, 9));
        C.same("5: all", x.clear(), 120);
    }

    private static void read() {
        KerbBall x = busy();
        x.clear();
        Made.type(x, " stone 5 ;stone0; wet  3;wet 1;stone 4;  ");
        C.same("6: items", x.read(), 5);
        C.same("6: stones", x.count(0), 3);
        C.same("6: the last wet", x.count(1), 1);
        C.same("6: nothing may be undone", x.count(2), 0);
        C.same("6: the text stays", x.count(3), 41);
        C.same("6: the book stays", x.count(4), 1);
        C.same("6: points", x.score(0) + x.score(1), 0);
        C.same("6: on", x.on(), 0);
        C.same("6: undo", x.undo(), -3);
        parts("6: the fraction stays", x, 9, 128);
        C.same("6: a second stone is SHARP", x.way(1, 5, 6), 2);
        C.same("6: a third one HIGH", x.way(2, 6, 6), 2);
        KerbBall y = busy();
        y.clear();
        C.same("6: an empty text", y.read(), 0);
        C.same("6: no stones", y.count(0), 0);
        C.same("6: no wet", y.count(1), 0);
        C.same("6: blanks alone", Made.readOf("    "), 0);
        C.same("6: eight stones", Made.readOf("stone0;stone1;stone2;stone3;stone4;stone5;stone0;stone1;wet1;wet0;wet3;"), 11);
        C.same("6: last kind, last wet", Made.readOf("stone 5;wet 3;"), 2);
        C.same("6: 24 items", Made.readOf("wet1;wet1;wet1;wet1;wet1;wet1;wet1;wet1;wet1;wet1;wet1;wet1;"
                + "wet1;wet1;wet1;wet1;wet1;wet1;wet1;wet1;wet1;wet1;wet1;wet1;"), 24);
    }

    private static void faults() {
        String[] texts = {"x;", "stone 6;", "wet 4;", "wet 10;", "wet 1 0;", "wet 1", "wet 1 ", "wet", "wet  ", "we", "  we t 1;",
            "stones 1;", "stone ;", ";", " 1;", "wet 1;;", "wet 1;stone", "Wet 1;", "wet\t1;", "wet#1;", "wet 1#", "stone stone 1;",
            "wet1wet 2;", "stone 1;  kerb 1;", "wet 1;stone a;", "wetstone 1;", "stone 05;", "wet1 12;", "wet 1;\n", "wet -1;", "weta 1;",
            "wetz 1;", "stonea1;", "wet 19;", "wet 09;", "stone 90;", "stone/1;", "wet 1:", "wet`1;", "wet{1;"};
        int[] places = {0, 6, 4, 4, 6, 5, 6, 3, 5, 0, 2,
            0, 6, 0, 1, 6, 11, 0, 3, 3, 5, 6,
            4, 10, 12, 0, 6, 5, 6, 4, 0,
            0, 0, 4, 4, 6, 5, 5, 3, 3};
        for (int i = 0; i < texts.length; i++) {
            KerbBall x = busy();
            x.clear();
            Made.type(x, texts[i]);
            int place = places[i];
            refused("6: fault of '" + texts[i] + "'", x, -1, -10 - place, () -> x.read());
        }
        C.same("6: a 9th stone at its word", Made.readOf("stone0;stone1;stone2;stone3;stone4;stone5;stone0;stone1; stone9;"), -67);
        KerbBall x = new KerbBall();
        x.type(0x776574313bL, 5);
        x.type(0xA0, 1);
        C.same("6: a byte above 127", x.read(), -15);
        x.clear();
        x.type(0, 1);
        C.same("6: a byte 0", x.read(), -10);
    }

    // ---- 7 to 13

    private static final int[][] EDGE = {{14, 16}, {14, 15}, {10, 11}, {13, 15}, {17, 19}, {10, 11}};

    private static void way() {
        KerbBall x = street(SHARP, ROUND, DOWN, WORN, HIGH, SLOPED);
        for (int wet = 0; wet <= 3; wet++) {
            x.wet(wet);
            for (int kind = 0; kind <= 5; kind++) {
                for (int f = 1; f <= 9; f++) {
                    for (int s = 0; s <= 9; s += 2) {
                        int h = 2 * s + f - wet;
                        int due = h < EDGE[kind][0] ? 1 : h > EDGE[kind][1] ? 3 : 2;
                        if (f == 9 || s == 6) {
                            C.same("7: " + kind + " " + f + " " + s + " wet " + wet, x.way(kind, f, s), f - wet < 2 ? 0 : due);
                        }
                    }
                }
            }
        }
        refusesThrows("7: way", -2, KerbBall::way);
    }

    private static void back() {
        KerbBall x = street(SHARP, ROUND, DOWN, WORN, HIGH, SLOPED);
        int[][] rows = {{0, 4, 5, 9}, {0, 6, 5, 11}, {1, 4, 5, 7}, {2, 4, 3, 5}, {3, 3, 5, 3}, {3, 4, 5, 3}, {3, 5, 5, 4},
            {4, 7, 5, 13}, {5, 5, 3, 8}, {0, 3, 5, 1}, {0, 9, 0, 4}, {0, 8, 2, 4}, {0, 2, 0, 1}, {0, 7, 5, 0}, {0, 9, 9, 0},
            {0, 1, 7, 0}, {2, 2, 4, 4}};
        for (int[] r : rows) {
            C.same("8: " + r[0] + " " + r[1] + " " + r[2], x.back(r[0], r[1], r[2]), r[3]);
        }
        x.wet(1);
        C.same("8: wet leaves the front's sum", x.back(0, 5, 0), 2);
        C.same("8: and the edge's", x.back(0, 5, 5), 10);
        C.same("8: short", x.back(0, 2, 9), 0);
        refusesThrows("8: back", -2, KerbBall::back);
    }

    private static void points() {
        KerbBall x = street(SHARP);
        int[] due = {0, 0, 0, 0, 0, 0, 0, 0, 10, 10, 10, 5, 5, 5, 0, 0, 0, 0, 0, 0, 0};
        for (int y = 0; y <= 20; y++) {
            C.same("9: stand " + y, x.points(0, 4, 5, y), due[y]);
        }
        C.same("9: a front is no catch", x.points(0, 3, 5, 1), 0);
        C.same("9: a top is none", x.points(0, 7, 5, 0), 0);
        C.same("9: short is none", x.points(0, 1, 7, 0), 0);
        refusesThrows("9: points", -2, (z, stone, f, s) -> z.points(stone, f, s, 3));
        bad("9: y -1", x, () -> x.points(0, 4, 5, -1));
        bad("9: y 21", x, () -> x.points(0, 4, 5, 21));
    }

    private static void oddsAndMean() {
        KerbBall x = street(SHARP, DOWN);
        int[][] rows = {{0, 5, 5, 0, 0}, {0, 5, 5, 1, 3}, {0, 5, 5, 2, 10}, {0, 5, 5, 3, 3}, {0, 2, 5, 0, 4}, {0, 1, 0, 0, 12},
            {0, 1, 0, 1, 4}, {0, 9, 9, 3, 16}, {1, 9, 0, 2, 5}, {1, 9, 0, 1, 10}, {1, 9, 0, 3, 1}};
        for (int[] r : rows) {
            C.same("10: " + r[0] + " " + r[1] + " " + r[2] + " " + r[3], x.odds(r[0], r[1], r[2], r[3]), r[4]);
        }
        refusesThrows("10: odds", -2, (z, stone, f, s) -> z.odds(stone, f, s, 2));
        bad("10: way -1", x, () -> x.odds(0, 5, 5, -1));
        bad("10: way 4", x, () -> x.odds(0, 5, 5, 4));
        C.same("11: mean", x.mean(0, 5, 5, 10), 100);
        C.same("11: nearer", x.mean(0, 5, 5, 9), 80);
        C.same("11: none", x.mean(0, 9, 9, 9), 0);
        refusesThrows("11: mean", -2, (z, stone, f, s) -> z.mean(stone, f, s, 3));
        bad("11: y -1", x, () -> x.mean(0, 5, 5, -1));
        bad("11: y 21", x, () -> x.mean(0, 5, 5, 21));
    }

    private static void best() {
        KerbBall x = street(SHARP, ROUND, DOWN, WORN, HIGH, SLOPED);
        int[] all = {100, 0, 3, 6, 9};
        for (int what = 0; what <= 4; what++) {
            C.same("12: of all " + what, x.best(KerbBall.NONE, what), all[what]);
            C.same("12: of SHARP " + what, x.best(0, what), all[what]);
        }
        C.same("12: the stone itself", x.best(3, 1), 3);
        C.same("12: WORN", x.best(3, 0), 100);
        C.same("12: WORN's stand", x.best(3, 4), 3);
        C.isTrue("12: ROUND has less", x.best(1, 0) < 100);
        KerbBall y = street(ROUND, WORN, SHARP);
        C.same("12: the first of like ones", y.best(KerbBall.NONE, 1), 1);
        for (int wet = 0; wet <= 3; wet++) {
            y.wet(wet);
            for (int stone = 0; stone <= 2; stone++) {
                int most = y.best(stone, 0);
                C.same("12: as its throw", y.mean(stone, y.best(stone, 2), y.best(stone, 3), y.best(stone, 4)), most);
            }
        }
        y.wet(0);
        C.same("12: dry again", y.best(2, 2), 3);
        KerbBall none = new KerbBall();
        C.same("12: no stones", none.best(KerbBall.NONE, 4), -1);
        C.same("12: that is no refusal", none.status(0), 0);
        refused("12: no such what, no stones", none, WRONG, -10, () -> none.best(-1, 5));
        refused("12: no such stone", none, WRONG, -10, () -> none.best(0, 0));
        refused("12: stone -2", x, WRONG, -10, () -> x.best(-2, 0));
        refused("12: stone 6", x, WRONG, -10, () -> x.best(6, 0));
        refused("12: what -1", x, WRONG, -10, () -> x.best(0, -1));
        refused("12: what 5", x, WRONG, -10, () -> x.best(0, 5));
    }

    private static void line() {
        KerbBall x = street(SHARP);
        C.same("13: one stand", x.line(0, 5, 5), 1 << 10);
        C.same("13: all alike", x.line(0, 1, 0), 2097151);
        // of all slips f 6, s 4 alone is an edge: it comes back 10
        C.same("13: some", x.line(0, 5, 3), 1 << 9 | 1 << 10 | 1 << 11);
        long bits = x.line(0, 4, 6);
        int most = 0;
        for (int y = 0; y <= 20; y++) {
            most = Math.max(most, x.mean(0, 4, 6, y));
        }
        for (int y = 0; y <= 20; y++) {
            C.same("13: bit " + y, bits >> y & 1, x.mean(0, 4, 6, y) == most ? 1 : 0);
        }
        refusesThrows("13: line", -2, KerbBall::line);
    }

    // ---- 14 to 21

    private static void middleAndStop() {
        KerbBall x = busy();
        fraction("14: half", x, x.middle(8, 1, 0), 1, 2);
        fraction("14: sure", x, x.middle(16, 6, 6), 6, 1);
        fraction("14: never", x, x.middle(0, 6, 0), 0, 1);
        fraction("14: at once", x, x.middle(9, 0, 0), 0, 1);
        fraction("14: keeps all", x, x.middle(8, 2, 0), 3, 4);
        fraction("14: three", x, x.middle(8, 3, 0), 7, 8);
        fraction("14: four by a quarter", x, x.middle(4, 4, 1), 11, 128);
        fraction("14: loses one", x, x.middle(8, 3, 1), 1, 2);
        fraction("14: loses no more than he has", x, x.middle(8, 2, 6), 1, 2);
        int[][] wrong = {{-1, 1, 1}, {17, 1, 1}, {8, -1, 1}, {8, 7, 1}, {8, 1, -1}, {8, 1, 7}};
        for (int[] w : wrong) {
            bad("14: " + w[0] + " " + w[1] + " " + w[2], x, () -> x.middle(w[0], w[1], w[2]));
        }
        C.same("15: nothing to lose", x.stop(8, 0), 6);
        C.same("15: of like ones the least", x.stop(8, 6), 1);
        C.same("15: sure", x.stop(16, 6), 6);
        C.same("15: never", x.stop(0, 3), 0);
        C.same("15: 12 of 16", x.stop(12, 6), 3);
        parts("15: leaves the fraction", x, 1, 2);
        int[][] wrongStops = {{-1, 1}, {17, 1}, {8, -1}, {8, 7}};
        for (int[] w : wrongStops) {
            bad("15: " + w[0] + " " + w[1], x, () -> x.stop(w[0], w[1]));
        }
    }

    private static void wins() {
        KerbBall x = busy();
        long[][] rows = {{0, 0, 10, 1, 4, 8, 4}, {0, 0, 10, 2, 4, 8, 64}, {0, 0, 10, 3, 4, 8, 2368}, {10, 0, 10, 2, 4, 8, 256},
            {0, 10, 10, 2, 4, 8, 0}, {10, 10, 10, 2, 4, 8, 256}, {9, 40, 10, 8, 16, 0, 0}, {0, 0, 1, 0, 16, 0, 0},
            {1, 0, 1, 0, 0, 0, 1}, {40, 40, 40, 8, 0, 0, 4294967296L}, {0, 0, 40, 7, 16, 0, 268435456L},
            {0, 0, 40, 6, 16, 0, 0}, {35, 0, 40, 8, 0, 0, 0}, {30, 35, 40, 3, 0, 16, 0}, {35, 35, 40, 3, 0, 16, 4096},
            {0, 0, 10, 3, 0, 8, 1024}, {0, 0, 1, 1, 4, 8, 12}, {4, 4, 5, 3, 4, 8, 3264}};
        for (long[] r : rows) {
            C.same("16: " + java.util.Arrays.toString(r),
                    x.wins((int) r[0], (int) r[1], (int) r[2], (int) r[3], (int) r[4], (int) r[5]), r[6]);
        }
        int[][] wrong = {{-1, 0, 10, 1, 4, 4}, {41, 0, 10, 1, 4, 4}, {0, -1, 10, 1, 4, 4}, {0, 41, 10, 1, 4, 4}, {0, 0, 0, 1, 4, 4},
            {0, 0, 41, 1, 4, 4}, {0, 0, 10, -1, 4, 4}, {0, 0, 10, 9, 4, 4}, {0, 0, 10, 1, -1, 4}, {0, 0, 10, 1, 17, 0},
            {0, 0, 10, 1, 4, -1}, {0, 0, 10, 1, 0, 17}, {0, 0, 10, 1, 9, 8}, {0, 0, 10, 1, Integer.MAX_VALUE, Integer.MAX_VALUE}};
        for (int[] w : wrong) {
            refused("16: " + java.util.Arrays.toString(w), x, WRONG, -100, () -> x.wins(w[0], w[1], w[2], w[3], w[4], w[5]));
        }
        parts("16: leaves the fraction", x, 9, 128);
    }

    private static void twofold() {
        KerbBall x = busy();
        int[][] rows = {{2, 2, 8, 8, 1, 3, 4}, {1, 1, 8, 8, 0, 1, 2}, {0, 3, 1, 1, 0, 1, 1}, {0, 0, 0, 0, 0, 1, 1},
            {1, 0, 16, 16, 0, 0, 1}, {1, 1, 4, 5, 1, 5, 16}, {1, 1, 5, 4, 0, 5, 16}, {20, 8, 16, 16, 0, 0, 1}, {16, 8, 16, 16, 1, 1, 1},
            {3, 2, 8, 4, 0, 1, 8}, {3, 2, 16, 4, 0, 1, 4}, {2, 2, 8, 0, 0, 1, 4}, {1, 2, 8, 0, 0, 3, 4}, {2, 2, 0, 8, 1, 3, 4}};
        for (int[] r : rows) {
            String what = "17: " + java.util.Arrays.toString(r);
            C.same(what, x.twofold(r[0], r[1], r[2], r[3]), r[4]);
            parts(what, x, r[5], r[6]);
        }
        int[][] wrong = {{-1, 1, 1, 1}, {21, 1, 1, 1}, {1, -1, 1, 1}, {1, 9, 1, 1}, {1, 1, -1, 1}, {1, 1, 17, 1}, {1, 1, 1, -1},
            {1, 1, 1, 17}};
        for (int[] w : wrong) {
            bad("17: " + java.util.Arrays.toString(w), x, () -> x.twofold(w[0], w[1], w[2], w[3]));
        }
    }

    private static void cars() {
        KerbBall x = busy();
        fraction("18: ten", x, x.cars(10, 3, 5), 3, 2);
        fraction("18: none", x, x.cars(0, 10, 10), 0, 1);
        fraction("18: all", x, x.cars(40, 10, 10), 40, 1);
        fraction("18: no cars", x, x.cars(5, 0, 5), 0, 1);
        fraction("18: never he", x, x.cars(5, 5, 0), 0, 1);
        fraction("18: few", x, x.cars(1, 1, 1), 1, 100);
        int[][] wrong = {{-1, 1, 1}, {41, 1, 1}, {1, -1, 1}, {1, 11, 1}, {1, 1, -1}, {1, 1, 11}};
        for (int[] w : wrong) {
            bad("18: " + w[0] + " " + w[1] + " " + w[2], x, () -> x.cars(w[0], w[1], w[2]));
        }
    }

    private static void judge() {
        KerbBall x = street(SHARP, DOWN);
        fraction("19: an edge for sure", x, x.judge(0, 5, 5, 10), 1, 1);
        fraction("19: a front", x, x.judge(0, 5, 5, 2), 0, 1);
        fraction("19: a top comes back 0", x, x.judge(0, 5, 5, 0), 0, 1);
        fraction("19: short comes back 0", x, x.judge(0, 1, 0, 0), 0, 1);
        // WORN, f 3, s 5: edges 13, 14, 15 come back 3, 3, 3; fronts 1, 1, 2
        KerbBall y = street(WORN);
        fraction("19: WORN", y, y.judge(0, 3, 5, 3), 1, 1);
        // WORN, f 6, s 4: the front of f 6, s 3 comes back 3 (2 cases), so does the edge of f 5, s 4 (2 cases)
        fraction("19: both", y, y.judge(0, 6, 4, 3), 1, 2);
        refused("19: never so", x, NOT, -3, () -> x.judge(0, 5, 5, 30));
        refused("19: never so either", x, NOT, -3, () -> x.judge(0, 5, 5, 8));
        refusesThrows("19: judge", -2, (z, stone, f, s) -> f >= 1 && f <= 9 && s >= 0 && s <= 9 && stone >= 0 && stone < z.count(0)
                ? z.judge(stone, f, s, 0) : z.judge(stone, f, s, 3));
        bad("19: yards -1", x, () -> x.judge(0, 5, 5, -1));
        bad("19: yards 31", x, () -> x.judge(0, 5, 5, 31));
    }

    private static void lot() {
        KerbBall x = busy();
        fraction("20: half", x, x.lot(3, 2, 3, 1), 1, 2);
        fraction("20: none needed", x, x.lot(12, 0, 12, 12), 1, 1);
        fraction("20: all by the first", x, x.lot(2, 2, 2, 0), 1, 6);
        fraction("20: no hits", x, x.lot(1, 0, 1, 0), 1, 1);
        fraction("20: the greatest", x, x.lot(12, 12, 12, 0), 1, 2704156);
        fraction("20: at least", x, x.lot(2, 1, 1, 1), 1, 1);
        fraction("20: three of five", x, x.lot(3, 2, 2, 0), 3, 10);
        int[][] wrong = {{0, 0, 1, 0}, {13, 0, 1, 0}, {1, 0, 0, 0}, {1, 0, 13, 0}, {3, 4, 3, 1}, {3, -1, 3, 1}, {3, 1, 3, 4},
            {3, 1, 3, -1}};
        for (int[] w : wrong) {
            bad("20: " + java.util.Arrays.toString(w), x, () -> x.lot(w[0], w[1], w[2], w[3]));
        }
    }

    private static void both() {
        KerbBall x = busy();
        // d, p, q, r, u; pairs; above, below
        int[][] rows = {{0, 8, 4, 8, 4, 1, 3, 4}, {1, 8, 4, 8, 4, 1, 1, 4}, {2, 16, 2, 16, 16, 4, 0, 1}, {2, 16, 2, 0, 0, 2, 1, 8},
            {4, 16, 16, 0, 0, 4, 0, 1}, {0, 0, 0, 0, 0, 4, 1, 1}, {1, 16, 16, 16, 0, 2, 1, 1}, {1, 16, 16, 16, 16, 2, 0, 1}};
        for (int[] r : rows) {
            String what = "21: " + java.util.Arrays.toString(r);
            C.same(what, x.both(r[0], r[1], r[2], r[3], r[4]), r[5]);
            parts(what, x, r[6], r[7]);
        }
        // his plain one: 256 of 256 against a plain one, 128 against a double; his double: 128, 192: by lot 170 and 2 of 3
        C.same("21: no pair rests", x.both(0, 16, 8, 16, 8), 0);
        parts("21: by lot", x, 2, 3);
        int[][] wrong = {{-1, 1, 1, 1, 1}, {5, 1, 1, 1, 1}, {1, -1, 1, 1, 1}, {1, 17, 1, 1, 1}, {1, 1, -1, 1, 1}, {1, 1, 17, 1, 1},
            {1, 1, 1, -1, 1}, {1, 1, 1, 17, 1}, {1, 1, 1, 1, -1}, {1, 1, 1, 1, 17}};
        for (int[] w : wrong) {
            bad("21: " + java.util.Arrays.toString(w), x, () -> x.both(w[0], w[1], w[2], w[3], w[4]));
        }
    }

    // ---- 22 to 28

    private static void sidesAndWorth() {
        KerbBall x = street(ROUND, SHARP, DOWN);
        int round = x.best(0, 0);
        int down = x.best(2, 0);
        C.isTrue("22: SHARP is best", round < 100 && down < 100);
        C.same("22: 1", x.sides(1), round - 100);
        C.same("22: 2", x.sides(2), 100 - down);
        C.same("23: the best one", x.worth(1), 100 - Math.max(round, down));
        C.same("23: another", x.worth(0), 0);
        KerbBall one = street(SHARP);
        C.same("23: the only one", one.worth(0), 100);
        refused("22: one stone", one, WRONG, -1000, () -> one.sides(1));
        refused("22: 0", x, WRONG, -1000, () -> x.sides(0));
        refused("22: 3", x, WRONG, -1000, () -> x.sides(3));
        refused("22: -1", x, WRONG, -1000, () -> x.sides(-1));
        bad("23: -1", x, () -> x.worth(-1));
        bad("23: 3", x, () -> x.worth(3));
        KerbBall none = new KerbBall();
        refused("22: none", none, WRONG, -1000, () -> none.sides(0));
        bad("23: none", none, () -> none.worth(0));
        KerbBall two = street(SHARP, SHARP);
        C.same("23: two alike", two.worth(1), 0);
        C.same("22: two alike", two.sides(1), 0);
    }

    private static void writeAndTear() {
        KerbBall x = new KerbBall();
        int[][] wrong = {{-1, 5, 5, 5, 4, 5}, {8, 5, 5, 5, 4, 5}, {0, 0, 5, 5, 4, 5}, {0, 10, 5, 5, 4, 5}, {0, 5, -1, 5, 4, 5},
            {0, 5, 10, 5, 4, 5}, {0, 5, 5, -1, 4, 5}, {0, 5, 5, 21, 4, 5}, {0, 5, 5, 5, -1, 5}, {0, 5, 5, 5, 9, 5},
            {0, 5, 5, 5, 4, -5}, {0, 5, 5, 5, 4, 15}, {0, 5, 5, 5, 4, 1}, {0, 5, 5, 5, 4, 9}, {0, 5, 5, 5, 4, -1}};
        for (int[] w : wrong) {
            bad("24: " + java.util.Arrays.toString(w), x, () -> x.write(w[0], w[1], w[2], w[3], w[4], w[5]));
        }
        for (int i = 1; i <= 12; i++) {
            C.same("24: stones need not be there", x.write(7, i % 2 == 0 ? 1 : 9, i % 2 == 0 ? 0 : 9, 20, i % 9, 10), i);
        }
        refused("24: a 13th", x, TOO_MANY, -4, () -> x.write(0, 5, 5, 5, 4, 5));
        bad("24: BAD ahead of FULL", x, () -> x.write(8, 5, 5, 5, 4, 5));
        C.same("26: told", x.book(1), 120);
        C.same("25: tear", x.tear(), 12);
        C.same("25: again", x.tear(), 0);
        C.same("25: empty", x.count(4), 0);
        C.same("26: told none", x.book(1), 0);
        C.same("24: anew", x.write(0, 5, 5, 0, 0, 0), 1);
    }

    private static void bookAndHours() {
        KerbBall x = street(SHARP);
        C.same("26: empty", x.book(0), -1);
        x.write(0, 5, 5, 10, 4, 10);
        x.write(0, 5, 5, 14, 4, 5);
        x.write(0, 5, 5, 12, 3 * 2, 0);
        x.write(0, 5, 5, 11, 3 * 2 + 1, 10);
        x.write(0, 6, 4, 10, 3 * 0 + 2, 10);
        C.same("26: the third was bounced", x.book(0), 2);
        C.same("26: told", x.book(1), 35);
        x.wet(3);
        C.same("26: by WET as now", x.book(0), 0);
        x.wet(0);
        x.tear();
        x.write(0, 5, 5, 12, 3 * 2, 5);
        x.write(0, 5, 5, 11, 3 * 2 + 1, 10);
        x.write(0, 6, 4, 10, 3 * 0 + 2, 10);
        C.same("26: slips as told", x.book(0), -1);
        KerbBall y = street(SHARP);
        y.write(0, 5, 5, 10, 4, 10);
        y.write(1, 5, 5, 10, 4, 10);
        C.same("26: a stone that is not there", y.book(0), 1);
        y.stone(SHARP);
        C.same("26: once it is there", y.book(0), -1);
        y.write(1, 5, 5, 10, 4, 5);
        C.same("26: wrong points", y.book(0), 2);
        bad("26: 2", y, () -> y.book(2));
        bad("26: -1", y, () -> y.book(-1));
        KerbBall z = new KerbBall();
        int[] told = {0, 5, 5, 10, 0, 10, 0, 5};
        for (int p : told) {
            z.write(0, 5, 5, 5, 4, p);
        }
        int[] due = {3, 2, 1, 2, 1, 0, 1, 0, -1, -1, -1, -1};
        for (int k = 1; k <= 12; k++) {
            C.same("27: rows of " + k, z.hours(k), due[k - 1]);
        }
        C.same("27: that is no refusal", z.status(0), 0);
        bad("27: 0", z, () -> z.hours(0));
        bad("27: 13", z, () -> z.hours(13));
        bad("27: -1", z, () -> z.hours(-1));
        KerbBall empty = new KerbBall();
        C.same("27: an empty book", empty.hours(1), -1);
        empty.write(0, 1, 1, 1, 1, 0);
        C.same("27: no points", empty.hours(1), 0);
    }

    private static void evening() {
        KerbBall x = street(SHARP, ROUND);
        x.wet(1);
        C.same("28: ten", x.evening(0, 5, 5, 10, 10, 7), 40);
        C.same("28: none", x.evening(0, 5, 5, 10, 0, 7), 0);
        C.same("28: sixty", x.evening(0, 5, 5, 10, 60, 999999), 300);
        x.wet(0);
        // seed 0: X is 12345, case 0: f 4, s 4 (height 12, a front); as told for f 6, s 6: f 5, s 5 comes back 10
        C.same("28: seed 0", x.evening(0, 5, 5, 10, 1, 0), 0);
        C.same("28: seed 0, an edge", x.evening(0, 6, 6, 10, 1, 0), 10);
        refusesThrows("28: evening", -2, (z, stone, f, s) -> z.evening(stone, f, s, 5, 5, 5));
        bad("28: y -1", x, () -> x.evening(0, 5, 5, -1, 5, 5));
        bad("28: y 21", x, () -> x.evening(0, 5, 5, 21, 5, 5));
        bad("28: n -1", x, () -> x.evening(0, 5, 5, 5, -1, 5));
        bad("28: n 61", x, () -> x.evening(0, 5, 5, 5, 61, 5));
        bad("28: seed -1", x, () -> x.evening(0, 5, 5, 5, 5, -1));
        bad("28: seed 1000000", x, () -> x.evening(0, 5, 5, 5, 5, 1000000));
        C.same("28: nothing is played", x.on() + x.score(0) + x.count(2), 0);
    }

    // ---- 29 to 38

    private static void playAndUndo() {
        KerbBall x = street(SHARP);
        C.same("29: caught", x.play(0, 5, 5, 10, 0, 0), 10);
        C.same("32: the other one", x.on(), 1);
        C.same("29: bounced", x.play(0, 5, 5, 12, 0, 0), 5);
        C.same("29: by a slip of f", x.play(0, 4, 5, 11, 1, 0), 10);
        C.same("29: by a slip of s", x.play(0, 4, 6, 9, 0, -1), 10);
        C.same("31: player 0", x.score(0), 20);
        C.same("31: player 1", x.score(1), 15);
        C.same("2: a stone told leaves what may be undone", x.stone(HIGH) + 10L * x.count(2), 41);
        C.same("30: undo", x.undo(), 1);
        C.same("30: on", x.on(), 1);
        C.same("30: his points", x.score(1), 5);
        C.same("30: the other's", x.score(0), 20);
        C.same("30: all", x.undo() + x.undo() + x.undo(), 3);
        C.same("30: none left", x.score(0) + x.score(1) + x.on() + x.count(2), 0);
        refused("30: no more", x, NOT, -3, () -> x.undo());
        refusesThrows("29: play", -2, (z, stone, f, s) -> z.play(stone, f, s, 3, 0, 0));
        int[][] wrong = {{-1, 0, 0}, {21, 0, 0}, {3, -2, 0}, {3, 2, 0}, {3, 0, -2}, {3, 0, 2}};
        for (int[] w : wrong) {
            bad("29: " + java.util.Arrays.toString(w), x, () -> x.play(0, 5, 5, w[0], w[1], w[2]));
        }
        bad("31: -1", x, () -> x.score(-1));
        bad("31: 2", x, () -> x.score(2));
        KerbBall y = street(SHARP);
        for (int i = 0; i < 13; i++) {
            // 10, 0, 5, 10, 10, 10, 0, 5, 10, 10, 10, 0, 5 points
            y.play(0, 5, 5, i == 2 || i == 7 || i == 12 ? 12 : i % 5 == 1 ? 20 : 10, 0, 0);
        }
        C.same("30: 10 at most", y.count(2), 10);
        int[][] ahead = {{45, 35}, {45, 35}, {35, 35}, {35, 25}, {25, 25}, {25, 20}, {25, 20}, {25, 10}, {15, 10}, {15, 0}};
        for (int i = 0; i < 10; i++) {
            C.same("30: one of them", y.undo(), 1);
            C.same("30: points of 0, of the last " + i, y.score(0), ahead[i][0]);
            C.same("30: points of 1, of the last " + i, y.score(1), ahead[i][1]);
        }
        C.same("30: no 11th", y.undo(), -3);
        C.same("30: what was ahead of them", y.score(0), 15);
        C.same("30: of both", y.score(1), 0);
        C.same("30: who was on", y.on(), 1);
        C.same("29: slips below f 1", y.play(0, 1, 9, 5, -1, 1), 0);
        C.same("29: slips above", y.play(0, 9, 9, 5, 1, 1), 0);
    }

    private static void images() {
        KerbBall x = busy();
        refused("35: none kept", x, NOT, -3, () -> x.from(0));
        C.same("34: image", x.image(0), 1);
        long digest = x.digest();
        x.stone(WORN);
        x.wet(2);
        x.play(0, 5, 5, 9, 0, 0);
        x.play(0, 6, 5, 9, 0, 0);
        x.tear();
        x.write(1, 1, 1, 1, 1, 10);
        C.same("34: another", x.image(1), 1);
        C.same("35: from 0", x.from(0), 1);
        C.same("35: all as it was", x.digest(), digest);
        C.same("35: what may be undone", x.undo(), 1);
        C.same("35: as ahead", x.score(0) + x.on(), 0);
        C.same("35: from 1", x.from(1), 1);
        C.same("35: its stones", x.count(0), 3);
        C.same("35: its wet", x.count(1), 2);
        C.same("35: its undo", x.count(2), 3);
        C.same("35: its book", x.book(1), 10);
        x.stone(SHARP);
        C.same("35: from 1 again", x.from(1), 1);
        C.same("35: as it was kept", x.count(0), 3);
        x.clear();
        x.cars(1, 1, 1);
        long bads = x.status(0);
        x.stone(9);
        C.same("35: from 0 again", x.from(0), 1);
        C.same("35: the text is not kept", x.count(3), 0);
        parts("35: nor the fraction", x, 1, 100);
        C.same("35: nor status", x.status(0), bads + 1);
        C.same("34: kept once more", x.image(1), 1);
        x.from(1);
        C.same("34: over the old one", x.count(0), 2);
        bad("34: -1", x, () -> x.image(-1));
        bad("34: 2", x, () -> x.image(2));
        bad("35: -1", x, () -> x.from(-1));
        bad("35: 2", x, () -> x.from(2));
        KerbBall y = new KerbBall();
        y.image(1);
        refused("35: 0 is not 1", y, NOT, -3, () -> y.from(0));
        C.same("35: an empty one", y.from(1), 1);
    }

    private static void statusCountPart() {
        KerbBall x = busy();
        x.image(0);
        refused("36: another what", x, WRONG, -1, () -> x.status(3));
        refused("36: -1", x, WRONG, -1, () -> x.status(-1));
        bad("37: -1", x, () -> x.count(-1));
        bad("37: 5", x, () -> x.count(5));
        bad("33: -1", x, () -> x.part(-1));
        bad("33: 2", x, () -> x.part(2));
        x.undo();
        x.undo();
        for (int i = 0; i < 6; i++) {
            x.stone(0);
        }
        x.stone(0);
        x.stone(0);
        C.same("36: BAD", x.status(0), 6);
        C.same("36: NO", x.status(1), 1);
        C.same("36: FULL", x.status(2), 2);
        x.best(9, 9);
        x.wins(-1, 0, 0, 0, 0, 0);
        x.sides(0);
        C.same("36: those with an answer of their own", x.status(0), 9);
        KerbBall y = busy();
        int[] due = {2, 1, 1, 6, 1};
        for (int what = 0; what <= 4; what++) {
            C.same("37: " + what, y.count(what), due[what]);
        }
    }

    private static void digest() {
        C.same("38: of a new object", new KerbBall().digest(), sum(0, 0, 0, 0, 0, 0, 0, 0, 0, 1));
        KerbBall x = busy();
        C.same("38: of a busy one", x.digest(), sum(2, 1, 1, 6, 1, SHARP, DOWN, x.score(0), x.score(1), 1, 0, 5, 5, 9, 4, 5, 9, 128));
        C.same("38: STATUS is none of it", x.status(7), -1);
        C.same("38: nor are images", x.image(0), 1);
        C.same("38: again", x.digest(), sum(2, 1, 1, 6, 1, SHARP, DOWN, x.score(0), x.score(1), 1, 0, 5, 5, 9, 4, 5, 9, 128));
        KerbBall y = street(SHARP);
        y.play(0, 9, 9, 0, 0, 0);
        y.play(0, 5, 5, 10, 0, 0);
        y.play(0, 5, 5, 12, 0, 0);
        C.same("38: points of both", y.digest(), sum(1, 0, 3, 0, 0, SHARP, 5, 10, 1, 0, 1));
        C.same("38: SLOPED", street(SLOPED).digest(), sum(1, 0, 0, 0, 0, SLOPED, 0, 0, 0, 0, 1));
    }

    private static long sum(long... values) {
        long h = 823;
        for (long v : values) {
            h = 31 * h + v;
        }
        return h;
    }
}
