import java.util.ArrayList;
import java.util.Arrays;
import java.util.List;
import java.util.function.Supplier;

/**
 * Every number of every call: the least and the greatest that are told, one less, one more, the least and the greatest
 * int; on an object where nothing is, on a busy one and on a full one. A refused call changes nothing but STATUS.
 */
public final class CallBoundsTest {
    private static final Checks C = new Checks("bounds of each call");
    /** Stands for the number of the last STONE, which hangs on the object. */
    private static final int LAST = 1000000007;
    private static final int[] STONE = {0, LAST}, F = {1, 9}, S = {0, 9}, Y = {0, 20}, CASES = {0, 16};

    private interface Asked {
        long of(KerbBall x, int[] a);
    }

    /** Its answer if a number is not as told, its least and greatest numbers, and ones that may stand with each of them. */
    private record Call(String name, long bad, int[] base, int[][] bounds, Asked asked) {
        int high(int i, KerbBall x) {
            return bounds[i][1] == LAST ? x.count(0) - 1 : bounds[i][1];
        }

        int low(int i) {
            return bounds[i][0];
        }
    }

    private static final List<Call> CALLS = new ArrayList<>();

    private static void call(String name, long bad, int[] base, Asked asked, int[]... bounds) {
        CALLS.add(new Call(name, bad, base, bounds, asked));
    }

    private static int[] n(int... numbers) {
        return numbers;
    }

    private static void streetAndThrows() {
        call("stone", -2, n(3), (x, a) -> x.stone(a[0]), n(0, 5));
        call("wet", -2, n(2), (x, a) -> x.wet(a[0]), n(0, 3));
        call("type", -2, n(1), (x, a) -> x.type(-1L, a[0]), n(1, 8));
        call("way", -2, n(0, 5, 5), (x, a) -> x.way(a[0], a[1], a[2]), STONE, F, S);
        call("back", -2, n(0, 5, 5), (x, a) -> x.back(a[0], a[1], a[2]), STONE, F, S);
        call("points", -2, n(0, 5, 5, 9), (x, a) -> x.points(a[0], a[1], a[2], a[3]), STONE, F, S, Y);
        call("odds", -2, n(0, 5, 5, 2), (x, a) -> x.odds(a[0], a[1], a[2], a[3]), STONE, F, S, n(0, 3));
        call("mean", -2, n(0, 5, 5, 9), (x, a) -> x.mean(a[0], a[1], a[2], a[3]), STONE, F, S, Y);
        call("best", -10, n(-1, 2), (x, a) -> x.best(a[0], a[1]), n(-1, LAST), n(0, 4));
        call("line", -2, n(0, 5, 5), (x, a) -> x.line(a[0], a[1], a[2]), STONE, F, S);
    }

    private static void middleAndGames() {
        call("middle", -2, n(8, 3, 2), (x, a) -> x.middle(a[0], a[1], a[2]), CASES, n(0, 6), n(0, 6));
        call("stop", -2, n(8, 2), (x, a) -> x.stop(a[0], a[1]), CASES, n(0, 6));
        call("wins", -100, n(5, 5, 20, 4, 0, 0), (x, a) -> x.wins(a[0], a[1], a[2], a[3], a[4], a[5]),
                n(0, 40), n(0, 40), n(1, 40), n(0, 8), CASES, CASES);
        call("twofold", -2, n(4, 4, 8, 4), (x, a) -> x.twofold(a[0], a[1], a[2], a[3]), n(0, 20), n(0, 8), CASES, CASES);
        call("cars", -2, n(7, 3, 4), (x, a) -> x.cars(a[0], a[1], a[2]), n(0, 40), n(0, 10), n(0, 10));
        call("judge", -2, n(0, 5, 5, 0), (x, a) -> x.judge(a[0], a[1], a[2], a[3]), STONE, F, S, n(0, 30));
        call("lot", -2, n(12, 0, 12, 0), (x, a) -> x.lot(a[0], a[1], a[2], a[3]), n(1, 12), n(0, 12), n(1, 12), n(0, 12));
        call("both", -2, n(1, 8, 4, 8, 4), (x, a) -> x.both(a[0], a[1], a[2], a[3], a[4]), n(0, 4), CASES, CASES, CASES, CASES);
        call("sides", -1000, n(1), (x, a) -> x.sides(a[0]), n(1, LAST));
        call("worth", -2, n(0), (x, a) -> x.worth(a[0]), STONE);
        call("write", -2, n(0, 5, 5, 9, 4, 5), (x, a) -> x.write(a[0], a[1], a[2], a[3], a[4], a[5]),
                n(0, 7), F, S, Y, n(0, 8), n(0, 10));
        call("book", -2, n(0), (x, a) -> x.book(a[0]), n(0, 1));
        call("hours", -2, n(2), (x, a) -> x.hours(a[0]), n(1, 12));
        call("evening", -2, n(0, 5, 5, 9, 9, 9), (x, a) -> x.evening(a[0], a[1], a[2], a[3], a[4], a[5]),
                STONE, F, S, Y, n(0, 60), n(0, 999999));
    }

    private static void playingAndWhatThereIs() {
        call("play", -2, n(0, 5, 5, 9, 0, 0), (x, a) -> x.play(a[0], a[1], a[2], a[3], a[4], a[5]),
                STONE, F, S, Y, n(-1, 1), n(-1, 1));
        call("score", -2, n(0), (x, a) -> x.score(a[0]), n(0, 1));
        call("part", -2, n(0), (x, a) -> x.part(a[0]), n(0, 1));
        call("image", -2, n(0), (x, a) -> x.image(a[0]), n(0, 1));
        call("from", -2, n(1), (x, a) -> x.from(a[0]), n(0, 1));
        call("status", -1, n(0), (x, a) -> x.status(a[0]), n(0, 2));
        call("count", -2, n(0), (x, a) -> x.count(a[0]), n(0, 4));
    }

    public static void main(String[] args) {
        streetAndThrows();
        middleAndGames();
        playingAndWhatThereIs();
        List<Supplier<KerbBall>> objects = List.of(Made::empty, Made::busy, Made::full);
        for (Call call : CALLS) {
            for (int i = 0; i < objects.size(); i++) {
                String what = call.name() + ", object " + i;
                outside(what, call, objects.get(i));
                inside(what, call, objects.get(i));
            }
        }
        callsWithoutNumbers(objects);
        C.end();
    }

    private static void refused(String what, Call call, Supplier<KerbBall> made, int[] a) {
        Twins.refused(C, what + " " + Arrays.toString(a), made, Twins.BAD, call.bad(), x -> call.asked().of(x, a));
    }

    private static void outside(String what, Call call, Supplier<KerbBall> made) {
        KerbBall x = made.get();
        for (int i = 0; i < call.base().length; i++) {
            int[] wrong = {call.low(i) - 1, call.high(i, x) + 1, Integer.MIN_VALUE, Integer.MAX_VALUE};
            for (int w : wrong) {
                int[] a = call.base().clone();
                a[i] = w;
                refused(what, call, made, a);
            }
        }
        // several wrong at once are one refusal
        int[] less = call.base().clone();
        int[] more = call.base().clone();
        int[] least = call.base().clone();
        int[] most = call.base().clone();
        for (int i = 0; i < call.base().length; i++) {
            less[i] = call.low(i) - 1;
            more[i] = call.high(i, x) + 1;
            least[i] = Integer.MIN_VALUE;
            most[i] = Integer.MAX_VALUE;
        }
        for (int[] a : List.of(less, more, least, most)) {
            refused(what, call, made, a);
        }
    }

    private static void inside(String what, Call call, Supplier<KerbBall> made) {
        KerbBall x = made.get();
        for (int i = 0; i < call.base().length; i++) {
            if (call.high(i, x) < call.low(i)) {
                return;
            }
        }
        taken(what, call, made.get(), call.base());
        for (int i = 0; i < call.base().length; i++) {
            int[] ends = {call.low(i), call.high(i, x)};
            for (int end : ends) {
                int[] a = call.base().clone();
                a[i] = end;
                taken(what, call, made.get(), a);
            }
        }
    }

    private static void taken(String what, Call call, KerbBall x, int[] a) {
        int before = x.status(0);
        long answer = call.asked().of(x, a);
        String where = what + " " + Arrays.toString(a);
        C.same(where + " is as told", x.status(0) - before, 0);
        C.isTrue(where + " does not answer BAD", answer != call.bad());
    }

    private static void callsWithoutNumbers(List<Supplier<KerbBall>> objects) {
        for (Supplier<KerbBall> made : objects) {
            KerbBall x = made.get();
            int before = x.status(0) + x.status(2);
            C.same("on", x.on(), x.on());
            C.same("digest", x.digest(), x.digest());
            x.undo();
            x.clear();
            x.read();
            x.tear();
            C.same("calls without numbers are never BAD, never FULL", x.status(0) + x.status(2), before);
        }
    }
}
