/** Counts what a test found, and ends it. */
final class Checks {
    private final String title;
    private int asked = 0;
    private int wrong = 0;

    Checks(String title) {
        this.title = title;
    }

    void same(String what, long got, long due) {
        asked++;
        if (got != due) {
            wrong++;
            if (wrong <= 40) {
                System.out.println(title + ": " + what + ": answered " + got + ", due is " + due);
            }
        }
    }

    void isTrue(String what, boolean holds) {
        same(what, holds ? 1 : 0, 1);
    }

    void end() {
        System.out.println(title + ": " + (asked - wrong) + " checks right, " + wrong + " wrong");
        if (wrong != 0 || asked == 0) {
            System.exit(1);
        }
    }
}
