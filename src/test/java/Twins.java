import java.util.ArrayList;
import java.util.List;
import java.util.function.Supplier;
import java.util.function.ToLongFunction;

/**
 * Two objects made alike: the one is asked, the other is not, and then everything that can be seen of both is laid
 * side by side: what may be undone, the images and the text, too, which no single answer shows.
 */
final class Twins {
    static final int BAD = 0, NO = 1, FULL = 2, NOTHING = 3;

    private Twins() {
    }

    /** The call is refused so, with that answer, and changes nothing but STATUS. */
    static void refused(Checks c, String what, Supplier<KerbBall> made, int why, long due, ToLongFunction<KerbBall> call) {
        KerbBall asked = made.get();
        long[] before = status(asked);
        c.same(what, call.applyAsLong(asked), due);
        long[] behind = status(asked);
        for (int i = 0; i <= 2; i++) {
            c.same(what + ": STATUS " + i, behind[i], before[i] + (i == why ? 1 : 0));
        }
        alike(c, what, asked, made.get());
    }

    static void bad(Checks c, String what, Supplier<KerbBall> made, ToLongFunction<KerbBall> call) {
        refused(c, what, made, BAD, -2, call);
    }

    /** The call answers so, is no refusal, and changes nothing at all. */
    static void changesNothing(Checks c, String what, Supplier<KerbBall> made, long due, ToLongFunction<KerbBall> call) {
        refused(c, what, made, NOTHING, due, call);
    }

    static void alike(Checks c, String what, KerbBall one, KerbBall other) {
        List<Long> a = everything(one);
        List<Long> b = everything(other);
        c.same(what + ": how much is seen", a.size(), b.size());
        for (int i = 0; i < Math.min(a.size(), b.size()); i++) {
            c.same(what + ": seen at " + i, a.get(i), b.get(i));
        }
    }

    private static long[] status(KerbBall x) {
        return new long[] {x.status(0), x.status(1), x.status(2)};
    }

    /** The object is of no more use behind this. */
    private static List<Long> everything(KerbBall x) {
        List<Long> seen = new ArrayList<>();
        seenNow(x, seen);
        seenUndoing(x, seen);
        for (int i = 0; i <= 1; i++) {
            seen.add((long) x.from(i));
            seenNow(x, seen);
            seenUndoing(x, seen);
        }
        seen.add((long) x.read());
        seenNow(x, seen);
        return seen;
    }

    private static void seenNow(KerbBall x, List<Long> seen) {
        for (int what = 0; what <= 4; what++) {
            seen.add((long) x.count(what));
        }
        seen.add((long) x.score(0));
        seen.add((long) x.score(1));
        seen.add((long) x.on());
        seen.add(x.part(0));
        seen.add(x.part(1));
        seen.add((long) x.book(0));
        seen.add((long) x.book(1));
        seen.add(x.digest());
    }

    private static void seenUndoing(KerbBall x, List<Long> seen) {
        while (x.undo() == 1) {
            seen.add((long) x.score(0));
            seen.add((long) x.score(1));
            seen.add((long) x.on());
        }
    }
}
