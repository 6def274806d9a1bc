import java.util.List;
import java.util.function.Consumer;
import java.util.function.Supplier;
import java.util.function.ToLongFunction;

/** "Nothing is promised beyond the answers and state changes described above": a call changes what it tells, no more. */
public final class ChangesTest {
    private static final Checks C = new Checks("what calls change");

    public static void main(String[] args) {
        for (Supplier<KerbBall> made : List.<Supplier<KerbBall>>of(Made::busy, Made::full)) {
            questionsAboutThrows(made);
            questionsAboutGames(made);
            questionsAboutWhatThereIs(made);
            callsThatTellAFraction(made);
        }
        callsTakenBack();
        C.end();
    }

    private static void changesNothing(String what, Supplier<KerbBall> made, ToLongFunction<KerbBall> call) {
        long due = call.applyAsLong(made.get());
        Twins.changesNothing(C, what, made, due, call);
    }

    private static void questionsAboutThrows(Supplier<KerbBall> made) {
        changesNothing("way", made, x -> x.way(1, 5, 5));
        changesNothing("back", made, x -> x.back(1, 5, 5));
        changesNothing("points", made, x -> x.points(1, 5, 5, 10));
        changesNothing("odds", made, x -> x.odds(1, 5, 5, 2));
        changesNothing("mean", made, x -> x.mean(1, 5, 5, 10));
        changesNothing("line", made, x -> x.line(1, 5, 5));
        for (int what = 0; what <= 4; what++) {
            int w = what;
            changesNothing("best of all " + w, made, x -> x.best(-1, w));
            changesNothing("best " + w, made, x -> x.best(1, w));
        }
    }

    private static void questionsAboutGames(Supplier<KerbBall> made) {
        changesNothing("stop", made, x -> x.stop(12, 6));
        changesNothing("wins", made, x -> x.wins(5, 10, 30, 8, 4, 8));
        changesNothing("sides", made, x -> x.sides(1));
        changesNothing("worth", made, x -> x.worth(1));
        changesNothing("book 0", made, x -> x.book(0));
        changesNothing("book 1", made, x -> x.book(1));
        changesNothing("hours", made, x -> x.hours(2));
        changesNothing("evening", made, x -> x.evening(1, 5, 5, 10, 60, 7));
    }

    private static void questionsAboutWhatThereIs(Supplier<KerbBall> made) {
        changesNothing("score 0", made, x -> x.score(0));
        changesNothing("score 1", made, x -> x.score(1));
        changesNothing("on", made, x -> x.on());
        changesNothing("part 0", made, x -> x.part(0));
        changesNothing("part 1", made, x -> x.part(1));
        for (int what = 0; what <= 4; what++) {
            int w = what;
            changesNothing("count " + w, made, x -> x.count(w));
            changesNothing("status " + w % 3, made, x -> x.status(w % 3));
        }
        changesNothing("digest", made, x -> x.digest());
    }

    /** With THE FRACTION set alike behind it, nothing else is another. */
    private static void callsThatTellAFraction(Supplier<KerbBall> made) {
        List<ToLongFunction<KerbBall>> calls = List.of(x -> x.middle(8, 3, 1), x -> x.twofold(4, 4, 8, 4), x -> x.cars(7, 7, 7),
                x -> x.judge(1, 9, 0, 4), x -> x.lot(5, 2, 5, 2), x -> x.both(0, 16, 8, 16, 8));
        for (int i = 0; i < calls.size(); i++) {
            KerbBall x = made.get();
            KerbBall y = made.get();
            calls.get(i).applyAsLong(x);
            x.cars(1, 1, 1);
            y.cars(1, 1, 1);
            Twins.alike(C, "a call of a fraction, " + i, x, y);
        }
    }

    private static void alike(String what, Consumer<KerbBall> asked, Consumer<KerbBall> other) {
        KerbBall x = Made.busy();
        KerbBall y = Made.busy();
        asked.accept(x);
        other.accept(y);
        Twins.alike(C, what, x, y);
    }

    /** What can be taken back leaves nothing else. */
    private static void callsTakenBack() {
        alike("wet", x -> x.wet(x.wet(3)), y -> { });
        alike("play", x -> {
            x.play(0, 5, 5, 10, 0, 0);
            x.undo();
        }, y -> { });
        alike("write", x -> {
            x.write(0, 5, 5, 5, 4, 10);
            x.tear();
        }, y -> y.tear());
        alike("tear", x -> {
            x.tear();
            x.write(0, 5, 5, 9, 4, 5);
            x.write(6, 1, 9, 20, 8, 10);
        }, y -> { });
        alike("type", x -> {
            x.type(-1, 8);
            x.clear();
        }, y -> y.clear());
        alike("clear", x -> {
            x.clear();
            Made.type(x, " stone 3 ;wet 2; stone5;");
        }, y -> { });
        alike("stone", x -> {
            x.image(0);
            x.stone(4);
            x.from(0);
        }, y -> y.image(0));
        alike("image and from", x -> {
            x.image(0);
            x.from(0);
            x.from(0);
        }, y -> y.image(0));
    }
}
