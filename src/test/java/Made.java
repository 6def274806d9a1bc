/** Objects to ask: a street, one where nothing is, one with some of everything, one that is full. */
final class Made {
    static final int SHARP = 0, ROUND = 1, DOWN = 2, WORN = 3, HIGH = 4, SLOPED = 5;
    static final int SHORT = 0, FRONT = 1, EDGE = 2, TOP = 3;

    private Made() {
    }

    static KerbBall empty() {
        return new KerbBall();
    }

    static KerbBall street(int... kinds) {
        KerbBall x = new KerbBall();
        for (int kind : kinds) {
            x.stone(kind);
        }
        return x;
    }

    static KerbBall wetStreet(int wet, int... kinds) {
        KerbBall x = street(kinds);
        x.wet(wet);
        return x;
    }

    /** Some of everything, so that a refused call has much to spoil; image 0 is not kept. */
    static KerbBall busy() {
        KerbBall x = wetStreet(1, SHARP, DOWN, HIGH);
        type(x, " stone 3 ;wet 2; stone5;");
        x.write(0, 5, 5, 9, 4, 5);
        x.write(6, 1, 9, 20, 8, 10);
        x.play(1, 4, 4, 5, 0, 0);
        x.image(1);
        x.play(0, 5, 5, 10, 0, 0);
        x.play(0, 5, 5, 10, 0, 0);
        x.undo();
        x.middle(3, 2, 1);
        return x;
    }

    /** 8 STONES, 120 bytes, 12 THROWS, 10 plays that may be undone, both images. */
    static KerbBall full() {
        KerbBall x = wetStreet(3, SLOPED, SHARP, WORN, SHARP, HIGH, ROUND, DOWN, WORN);
        type(x, "stone0;stone1;stone2;stone3;stone4;stone5;stone0;stone1;");
        type(x, "wet 3;wet 2;wet 1;wet 0;wet 3;wet 2;wet 1;wet 0;wet 3;wet 2;    ");
        for (int i = 0; i < 12; i++) {
            x.write(i % 8, 1 + i % 9, i % 10, i, i % 9, i % 3 * 5);
        }
        for (int i = 0; i < 12; i++) {
            x.play(1, 8, 5, i % 4 * 4 + 1, 0, 0);
        }
        x.image(0);
        x.play(1, 8, 5, 13, 0, 0);
        x.image(1);
        x.play(1, 8, 5, 15, 0, 0);
        x.cars(7, 3, 9);
        return x;
    }

    static void type(KerbBall x, String s) {
        for (int i = 0; i < s.length(); i += 8) {
            int n = Math.min(8, s.length() - i);
            long v = 0;
            for (int j = i; j < i + n; j++) {
                v = v << 8 | s.charAt(j);
            }
            x.type(v, n);
        }
    }

    static long readOf(String s) {
        KerbBall x = new KerbBall();
        type(x, s);
        return x.read();
    }
}
