import java.util.function.LongSupplier;

/**
 * Runs of as many calls on one object as the document allows, each answer worked out ahead of it: plays, undos and images
 * over and over, each call alone, texts filled and read anew, refusals of each reason.
 */
public final class LongRunTest {
    private static final int CALLS = 512;
    private static final Checks C = new Checks("runs of 512 calls");

    private final String title;
    private final KerbBall ball = new KerbBall();
    private int asked = 0;

    private LongRunTest(String title) {
        this.title = title;
    }

    public static void main(String[] args) {
        playsUndosImages();
        imagesOfImages();
        bookAndHours();
        textsOneBehindTheOther();
        refusals();
        streetAndThrows();
        eachCallOver();
        eachChangeOver();
        C.end();
    }

    private void ask(String what, long got, long due) {
        asked++;
        C.same(title + ", call " + asked + ", " + what, got, due);
    }

    private void end() {
        C.same(title + ": calls", asked, CALLS);
    }

    private static long sum(long... values) {
        long h = 823;
        for (long v : values) {
            h = 31 * h + v;
        }
        return h;
    }

    // ---- plays, undos, images

    /** SHARP, f 5, s 5 comes back 10: 10 points at 10, 5 at 13, none at 20. */
    private void play(int points) {
        ask("play", ball.play(0, 5, 5, points == 10 ? 10 : points == 5 ? 13 : 20, 0, 0), points);
    }

    private void scores(String what, long of0, long of1, int on) {
        ask(what + ", points of 0", ball.score(0), of0);
        ask(what + ", points of 1", ball.score(1), of1);
        ask(what + ", who is on", ball.on(), on);
    }

    private void undoTimes(int many) {
        for (int i = 0; i < many; i++) {
            ask("undo", ball.undo(), 1);
        }
    }

    private void all(String what, int mayBeUndone, long of0, long of1, int on) {
        ask(what + ", digest", ball.digest(), sum(1, 0, mayBeUndone, 0, 0, 0, of0, of1, on, 0, 1));
    }

    /** 10 rounds of 51 calls: by each one 0 gains 20 and 1 gains 15, and all else that was played is gone again. */
    private static void playsUndosImages() {
        LongRunTest run = new LongRunTest("plays, undos, images");
        KerbBall x = run.ball;
        run.ask("stone", x.stone(0), 0);
        for (int round = 0; round < 10; round++) {
            int i = round % 2;
            long of0 = 20L * round;
            long of1 = 15L * round;
            // ahead of the first round nothing may be undone, ahead of each other one what was played behind its image
            int ahead = Math.min(10, 4 * round);
            run.ask("image", x.image(i), 1);
            for (int pair = 0; pair < 6; pair++) {
                run.play(10);
                run.play(5);
            }
            run.scores("behind 12 plays", of0 + 60, of1 + 30, 0);
            run.undoTimes(10);
            run.ask("an 11th undo", x.undo(), -3);
            run.scores("10 of 12 undone", of0 + 10, of1 + 5, 0);
            run.play(0);
            run.ask("from the image", x.from(i), 1);
            run.all("as it was kept", ahead, of0, of1, 0);
            run.ask("from the other one", x.from(1 - i), round == 0 ? -3 : 1);
            long kept = round == 0 ? 0 : round - 1;
            run.all("as the other one was kept", Math.min(10, 4 * (int) kept), 20 * kept, 15 * kept, 0);
            run.ask("from the image again", x.from(i), 1);
            run.play(10);
            run.play(10);
            run.play(5);
            run.ask("undo", x.undo(), 1);
            run.play(10);
            run.play(5);
            run.ask("may be undone", x.count(2), Math.min(10, 4 * round + 4));
            run.undoTimes(1);
            run.play(5);
            run.scores("the round's end", of0 + 20, of1 + 15, 0);
            run.ask("BAD", x.status(0), 0);
            run.ask("FULL", x.status(2), 0);
            run.ask("stones", x.count(0), 1);
        }
        run.ask("how often nothing could be undone, or no image was there", x.status(1), 11);
        run.end();
    }

    /** An image kept of what another one gave, over and over: what may be undone goes with it. */
    private static void imagesOfImages() {
        LongRunTest run = new LongRunTest("images of images");
        KerbBall x = run.ball;
        run.ask("stone", x.stone(0), 0);
        run.ask("image of none played", x.image(0), 1);
        for (int round = 1; round <= 42; round++) {
            int i = round % 2;
            run.ask("from", x.from(1 - i), 1);
            run.play(round % 3 * 5);
            run.ask("image", x.image(i), 1);
            run.ask("may be undone", x.count(2), Math.min(10, round));
            run.ask("undo", x.undo(), 1);
            run.ask("who was on", x.on(), 1 - i);
            run.ask("may be undone", x.count(2), Math.min(10, round) - 1);
            run.play(10);
            run.play(10);
            run.ask("another stone", x.stone(3), 1);
            run.ask("wet", x.wet(2), 0);
            run.ask("book", x.write(0, 5, 5, 10, 4, 10), 1);
        }
        run.ask("from the last", x.from(0), 1);
        // plays of 5, 10, 0 points by turns: of 42 each player has 7 of each
        run.all("at the end", 10, 105, 105, 0);
        run.undoTimes(1);
        run.all("undone", 9, 105, 105, 1);
        run.undoTimes(1);
        run.ask("points of 0, 10 of the 41st less", x.score(0), 95);
        run.end();
    }

    // ---- the book, the text

    /** 12 THROWS written, looked at and torn out, 21 times. */
    private static void bookAndHours() {
        LongRunTest run = new LongRunTest("the book");
        KerbBall x = run.ball;
        run.ask("stone", x.stone(0), 0);
        for (int round = 0; round < 21; round++) {
            for (int i = 0; i < 12; i++) {
                int points = (i + round) % 3 * 5;
                run.ask("write", x.write(0, 5, 5, points == 10 ? 10 : points == 5 ? 13 : 20, 4, points), i + 1);
            }
            run.ask("a 13th", x.write(0, 5, 5, 10, 4, 10), -4);
            run.ask("wrong", x.book(0), -1);
            run.ask("told", x.book(1), 60);
            // by rounds the first 10 stands at 2, 1, 0, and a row of two has 15 from 5 and 10 one ahead of it
            run.ask("rows of 1", x.hours(1), 2 - round % 3);
            run.ask("rows of 2", x.hours(2), round % 3 == 0 ? 1 : round % 3 == 1 ? 0 : 2);
            run.ask("rows of 12", x.hours(12), 0);
            run.ask("how many", x.count(4), 12);
            run.ask("image", x.image(round % 2), 1);
            run.ask("tear", x.tear(), 12);
            run.ask("rows of an empty one", x.hours(1), -1);
            run.ask("from", x.from(round % 2), 1);
            run.ask("tear", x.tear(), 12);
        }
        run.ask("none", x.count(4), 0);
        run.ask("none wrong", x.book(0), -1);
        run.ask("none told", x.book(1), 0);
        run.ask("FULL", x.status(2), 21);
        run.ask("nothing else was refused", x.status(0), 0);
        run.ask("nothing else was refused", x.status(1), 0);
        run.ask("one stone", x.count(0), 1);
        run.end();
    }

    private static final long WET = 0x7765742020303b20L, STONE = 0x73746f6e6520303bL;

    /** The figure stands in the byte that the text has for it: "wet  0; " its third from behind, "stone 0;" its second. */
    private static long wetTo(int n) {
        return WET + ((long) n << 16);
    }

    private static long stoneOf(int kind) {
        return STONE + ((long) kind << 8);
    }

    /** 28 texts of 15 times 8 bytes: 8 stones and 7 wets, each 18 calls, with what becomes of them. */
    private static void textsOneBehindTheOther() {
        LongRunTest run = new LongRunTest("texts");
        KerbBall x = run.ball;
        for (int round = 0; round < 28; round++) {
            int first = round % 6;
            for (int i = 0; i < 8; i++) {
                run.ask("type a stone", x.type(stoneOf((first + i) % 6), 8), 8L * i + 8);
            }
            for (int i = 0; i < 7; i++) {
                run.ask("type wet", x.type(wetTo((round + i) % 4), 8), 72 + 8L * i);
            }
            run.ask("read", x.read(), 15);
            run.ask("digest", x.digest(), sum(8, (round + 6) % 4, 0, 120, 0, first, (first + 1) % 6, (first + 2) % 6,
                    (first + 3) % 6, (first + 4) % 6, (first + 5) % 6, first, (first + 1) % 6, 0, 0, 0, 0, 1));
            run.ask("clear", x.clear(), 120);
        }
        run.ask("a 9th stone", x.type(stoneOf(0), 8), 8);
        run.ask("read", x.read(), 1);
        run.ask("clear", x.clear(), 8);
        run.ask("type a fault", x.type(stoneOf(6), 8), 8);
        run.ask("read", x.read(), -16);
        run.ask("the stone stays", x.count(0), 1);
        run.ask("a fault counts in no STATUS", x.status(0), 0);
        run.ask("a fault counts in no STATUS", x.status(1), 0);
        run.end();
    }

    // ---- STATUS

    /** 125 of each reason by turns, with STATUS asked behind each three. */
    private static void refusals() {
        LongRunTest run = new LongRunTest("refusals");
        KerbBall x = run.ball;
        for (int i = 0; i < 8; i++) {
            run.ask("stone", x.stone(i % 6), i);
        }
        long[] bad = {-10, -100, -1000, -1, -2};
        for (int i = 1; i <= 125; i++) {
            long got = i % 5 == 0 ? x.best(8, 0) : i % 5 == 1 ? x.wins(0, 0, 0, 0, 0, 0) : i % 5 == 2 ? x.sides(8)
                    : i % 5 == 3 ? x.status(3) : x.wet(4);
            run.ask("BAD", got, bad[i % 5]);
            run.ask("NO", i % 3 == 0 ? x.undo() : i % 3 == 1 ? x.from(i % 2) : x.judge(0, 5, 5, 30), -3);
            run.ask("FULL", x.stone(i % 6), -4);
            int what = i % 3;
            run.ask("STATUS " + what, x.status(what), i);
        }
        run.ask("BAD in all", x.status(0), 125);
        run.ask("NO in all", x.status(1), 125);
        run.ask("FULL in all", x.status(2), 125);
        run.ask("nothing else", x.digest(), sum(8, 0, 0, 0, 0, 0, 1, 2, 3, 4, 5, 0, 1, 0, 0, 0, 0, 1));
        run.end();
    }

    // ---- the street

    /** Stones come one by one, WET goes up and down: each throw is by the stones and WET of its time. */
    private static void streetAndThrows() {
        LongRunTest run = new LongRunTest("street and throws");
        KerbBall x = run.ball;
        run.ask("stone", x.stone(0), 0);
        run.ask("the empty book is right", x.book(0), -1);
        run.ask("write", x.write(1, 5, 5, 10, 4, 10), 1);
        run.ask("its stone is not there", x.book(0), 0);
        run.ask("stone", x.stone(0), 1);
        run.ask("its stone is there", x.book(0), -1);
        for (int round = 0; round < 50; round++) {
            int wet = round % 4;
            run.ask("wet", x.wet(wet), round == 0 ? 0 : (round - 1) % 4);
            // SHARP, f 4, s 5: HEIGHT 14 less WET; f less WET is below 2 by WET 3
            run.ask("way", x.way(0, 4, 5), wet == 0 ? 2 : wet == 3 ? 0 : 1);
            run.ask("back", x.back(0, 4, 5), wet == 0 ? 9 : wet == 3 ? 0 : 2);
            run.ask("points", x.points(0, 4, 5, 9), wet == 0 ? 10 : 0);
            // f 8, s 4: HEIGHT 16 less WET, an EDGE always
            run.ask("way", x.way(1, 8, 4), wet <= 2 ? 2 : 1);
            run.ask("wrong", x.book(0), wet <= 1 ? -1 : 0);
            run.ask("best of two alike", x.best(-1, 1), 0);
            run.ask("worth of one of two alike", x.worth(1), 0);
            run.ask("sides of two alike", x.sides(1), 0);
            run.ask("evening of none", x.evening(0, 5, 5, 10, 0, round), 0);
        }
        run.ask("wet at the end", x.count(1), 1);
        run.ask("stones", x.count(0), 2);
        run.ask("sum", x.digest(), sum(2, 1, 0, 0, 1, 0, 0, 0, 0, 0, 1, 5, 5, 10, 4, 10, 0, 1));
        run.ask("BAD", x.status(0), 0);
        run.ask("NO", x.status(1), 0);
        run.ask("FULL", x.status(2), 0);
        run.end();
    }

    // ---- one call over and over

    private interface Call {
        long of(KerbBall x);
    }

    /** What changes nothing, or the same each time, answers the same 511 times; the sum behind it is the 512th call. */
    private static void same(String what, Call call, long due, long above, long below) {
        LongRunTest run = new LongRunTest(what);
        run.ball.stone(0);
        run.asked++;
        for (int i = 0; i < CALLS - 2; i++) {
            run.ask(what, call.of(run.ball), due);
        }
        run.ask("digest", run.ball.digest(), sum(1, 0, 0, 0, 0, 0, 0, 0, 0, above, below));
        run.end();
    }

    private static void eachCallOver() {
        same("clear", x -> x.clear(), 0, 0, 1);
        same("way", x -> x.way(0, 5, 5), 2, 0, 1);
        same("back", x -> x.back(0, 5, 5), 10, 0, 1);
        same("points", x -> x.points(0, 5, 5, 10), 10, 0, 1);
        same("odds", x -> x.odds(0, 5, 5, 2), 10, 0, 1);
        same("mean", x -> x.mean(0, 5, 5, 10), 100, 0, 1);
        same("best", x -> x.best(-1, 4), 9, 0, 1);
        same("line", x -> x.line(0, 5, 5), 1 << 10, 0, 1);
        same("middle", x -> x.middle(8, 3, 1), 1, 1, 2);
        same("stop", x -> x.stop(8, 6), 1, 0, 1);
        same("wins", x -> x.wins(0, 0, 10, 3, 4, 8), 2368, 0, 1);
        same("twofold", x -> x.twofold(2, 2, 8, 8), 1, 3, 4);
        same("cars", x -> x.cars(40, 3, 7), 1, 42, 5);
        same("judge", x -> x.judge(0, 5, 5, 10), 1, 1, 1);
        same("lot", x -> x.lot(3, 2, 2, 0), 1, 3, 10);
        same("both", x -> x.both(0, 16, 8, 16, 8), 0, 2, 3);
        same("sides", x -> x.sides(1), -1000, 0, 1);
        same("worth", x -> x.worth(0), 100, 0, 1);
        same("tear", x -> x.tear(), 0, 0, 1);
        same("book", x -> x.book(0), -1, 0, 1);
        same("hours", x -> x.hours(1), -1, 0, 1);
        same("evening", x -> x.evening(0, 6, 6, 10, 1, 0), 10, 0, 1);
        same("undo", x -> x.undo(), -3, 0, 1);
        same("score", x -> x.score(1), 0, 0, 1);
        same("on", x -> x.on(), 0, 0, 1);
        same("part", x -> x.part(1), 1, 0, 1);
        same("image", x -> x.image(1), 1, 0, 1);
        same("from", x -> x.from(0), -3, 0, 1);
        same("status", x -> x.status(2), 0, 0, 1);
        same("count", x -> x.count(0), 1, 0, 1);
        same("digest", x -> x.digest(), sum(1, 0, 0, 0, 0, 0, 0, 0, 0, 0, 1), 0, 1);
    }

    private interface Answer {
        long at(int call);
    }

    /** The call i times told, i from 1 on, and the answer that is due to the i-th. */
    private static void over(String what, int calls, LongRunTest run, LongSupplier call, Answer due) {
        for (int i = 1; i <= calls; i++) {
            run.ask(what, call.getAsLong(), due.at(i));
        }
        run.end();
    }

    private static void eachChangeOver() {
        LongRunTest stones = new LongRunTest("stone");
        over("stone", CALLS, stones, () -> stones.ball.stone(2), i -> i <= 8 ? i - 1 : -4);
        LongRunTest wets = new LongRunTest("wet");
        over("wet", CALLS, wets, () -> wets.ball.wet(wets.asked % 4), i -> i == 1 ? 0 : (i - 2) % 4);
        LongRunTest types = new LongRunTest("type");
        over("type", CALLS, types, () -> types.ball.type(-1, 7), i -> i <= 17 ? 7L * i : -4);
        LongRunTest writes = new LongRunTest("write");
        over("write", CALLS, writes, () -> writes.ball.write(7, 9, 9, 20, 8, 10), i -> i <= 12 ? i : -4);
        LongRunTest reads = new LongRunTest("read");
        reads.ask("type", reads.ball.type(0x737464L, 3), 3);
        over("read", CALLS - 1, reads, () -> reads.ball.read(), i -> -10);
        LongRunTest plays = new LongRunTest("play");
        plays.ask("stone", plays.ball.stone(0), 0);
        over("play", CALLS - 1, plays, () -> plays.ball.play(0, 5, 5, 10, 0, 0), i -> 10);
    }
}
