import java.io.IOException;

/** The sentences about THE TEXT and what is read of it: every byte at every place, every end, every fault's place. */
public final class FaultTest {
    private static final String[] ITEM_ENDS = {"", "wet 1;", "stone0;"};
    private static final String[] STONE_WORDS = {"stone", "wet 0;stone"};
    private static final String[] WET_WORDS = {"wet", "stone 5;wet"};
    private static final String[] NUMBERS = {"stone 5", "wet 3", "stone0"};
    private static final String EIGHT = "stone0;stone1;stone2;stone3;stone4;stone5;stone0;stone1;";
    private static final int READ = -1;
    private static Sentences doc;

    public static void main(String[] args) throws IOException {
        doc = new Sentences("the street as a text");
        typed();
        tokens();
        faults();
        streets();
        doc.end();
    }

    /** A new object reads the text: so many ITEMS, or a fault there. */
    private static void reads(String text, long due) {
        doc.same("read of '" + text + "'", Made.readOf(text), due);
    }

    private static void fault(String text, int place) {
        reads(text, -10 - place);
    }

    // ---- THE TEXT

    private static void typed() {
        doc.says("THE STREET is a TEXT (120 bytes at most)", FaultTest::bytesAtMost);
        doc.says("The lowest n (1 .. 8) bytes of v, the highest of them first, come to THE TEXT: how many it has. BAD; FULL.",
                FaultTest::lowestBytes);
        doc.says("THE TEXT is empty: how many it had.", FaultTest::cleared);
    }

    private static KerbBall withBlanks(int many) {
        KerbBall x = new KerbBall();
        for (int i = 0; i < many; i++) {
            x.type(' ', 1);
        }
        return x;
    }

    private static void bytesAtMost() {
        for (int many = 110; many <= 120; many++) {
            int m = many;
            for (int n = 1; n <= 8; n++) {
                int bytes = n;
                if (many + n <= 120) {
                    doc.same(n + " behind " + many, withBlanks(many).type(-1L, n), many + n);
                } else {
                    Twins.refused(doc.checks, doc.of(n + " behind " + many), () -> withBlanks(m), Twins.FULL, -4, x -> x.type(-1L, bytes));
                }
            }
        }
        Twins.bad(doc.checks, doc.of("120 bytes, n 0: BAD goes first"), Made::full, x -> x.type(32, 0));
        Twins.bad(doc.checks, doc.of("120 bytes, n 9: BAD goes first"), Made::full, x -> x.type(32, 9));
        Twins.refused(doc.checks, doc.of("8 bytes behind 120"), Made::full, Twins.FULL, -4, x -> x.type(0x3b3b3b3b3b3b3b3bL, 8));
        KerbBall x = withBlanks(119);
        doc.same("two behind 119", x.type(-1L, 2), -4);
        doc.same("none of the two came", x.count(3), 119);
        doc.same("one behind 119", x.type('x', 1), 120);
        doc.same("the 120th byte is read", x.read(), -10 - 119);
    }

    private static void lowestBytes() {
        for (int n = 1; n <= 8; n++) {
            for (int wrong = 0; wrong < n; wrong++) {
                long v = 0x2020202020202020L & (n == 8 ? -1L : (1L << 8 * n) - 1);
                v += (long) ('x' - ' ') << 8 * (n - 1 - wrong);
                v |= n == 8 ? 0 : -1L << 8 * n;
                KerbBall x = new KerbBall();
                doc.same("how many", x.type(v, n), n);
                doc.same("the byte at " + wrong + " of " + n, x.read(), -10 - wrong);
            }
        }
        KerbBall x = new KerbBall();
        doc.same("behind those that are there", x.type(0x776574L, 3) * 10 + x.type(Long.MIN_VALUE | 0x323bL, 2), 35);
        doc.same("all of them", x.read(), 1);
        doc.same("WET 2", x.count(1), 2);
        long[] ends = {Long.MIN_VALUE, Long.MAX_VALUE, -1, 0, 1};
        for (long v : ends) {
            KerbBall y = new KerbBall();
            doc.same("8 bytes of " + v, y.type(v, 8), 8);
            doc.same("none of them begins a TOKEN", y.read(), -10);
        }
        Twins.bad(doc.checks, doc.of("n 0"), Made::busy, y -> y.type(Long.MAX_VALUE, 0));
        Twins.bad(doc.checks, doc.of("n 9"), Made::busy, y -> y.type(Long.MIN_VALUE, 9));
        Twins.bad(doc.checks, doc.of("n -1"), Made::empty, y -> y.type(0, -1));
    }

    private static void cleared() {
        doc.same("of a new object", new KerbBall().clear(), 0);
        KerbBall x = Made.full();
        doc.same("of a full one", x.clear(), 120);
        doc.same("again", x.clear(), 0);
        doc.same("none is left", x.count(3), 0);
        doc.same("an empty one is read", x.read(), 0);
        for (int i = 1; i <= 15; i++) {
            doc.same("120 bytes may come anew", x.type(0x2020202020202020L, 8), 8L * i);
        }
        doc.same("and no more", x.type(0x20, 1), -4);
    }

    // ---- TOKENS

    private static void tokens() {
        doc.says("of ITEMS, each ended by ; : stone KIND; wet n.", FaultTest::items);
        doc.says("TOKENS: words of letters a .. z, figures (1 is a number), ; ;", FaultTest::everyByteEverywhere);
        doc.says("any number of blanks (32) ahead of, between, behind them (needed only between two words, two numbers).",
                FaultTest::blanks);
    }

    private static void items() {
        for (int n = 0; n <= 9; n++) {
            if (n <= 5) {
                reads("stone " + n + ";", 1);
            } else {
                fault("stone " + n + ";", 6);
            }
            if (n <= 3) {
                reads("wet " + n + ";", 1);
            } else {
                fault("wet " + n + ";", 4);
            }
        }
        KerbBall x = new KerbBall();
        Made.type(x, "wet 3;stone 5;wet 2;");
        doc.same("how many ITEMS", x.read(), 3);
        doc.same("STONES", x.count(0), 1);
        doc.same("the last wet", x.count(1), 2);
    }

    /** All 256 bytes, behind each kind of thing that may be there, with a blank between and without. */
    private static void everyByteEverywhere() {
        for (int b = 0; b <= 255; b++) {
            String sign = String.valueOf((char) b);
            for (String before : ITEM_ENDS) {
                atItem(before + " ", sign, b);
                atItem(before, sign, b);
            }
            for (String before : STONE_WORDS) {
                atNumber(before + " ", sign, b, '5', before.length() + 1);
                atNumber(before, sign, b, '5', isLetter(b) ? before.length() - 5 : before.length());
            }
            for (String before : WET_WORDS) {
                atNumber(before + " ", sign, b, '3', before.length() + 1);
                atNumber(before, sign, b, '3', isLetter(b) ? before.length() - 3 : before.length());
            }
            for (String before : NUMBERS) {
                atEnd(before + " ", sign, b, before.length() + 1);
                atEnd(before, sign, b, isFigure(b) ? before.length() - 1 : before.length());
            }
        }
    }

    private static boolean isLetter(int b) {
        return b >= 97 && b <= 122;
    }

    private static boolean isFigure(int b) {
        return b >= 48 && b <= 57;
    }

    private static void atItem(String before, String sign, int b) {
        if (b == 32) {
            reads(before + sign, before.length() > 1 ? 1 : 0);
        } else {
            fault(before + sign, before.length());
        }
    }

    private static void atNumber(String before, String sign, int b, char last, int place) {
        if (b == 32 || b >= '0' && b <= last) {
            fault(before + sign, before.length() + 1);
        } else {
            fault(before + sign, place);
        }
    }

    private static void atEnd(String before, String sign, int b, int place) {
        if (b == ';') {
            reads(before + sign, 1);
        } else {
            fault(before + sign, b == 32 ? before.length() + 1 : place);
        }
    }

    private static void blanks() {
        reads("stone0;wet1;", 2);
        reads("   stone    0    ;    wet    1    ;    ", 2);
        reads("stone 0 ;wet 1 ;", 2);
        fault("stonewet 0;", 0);
        fault("stone0stone1;", 6);
        fault("wet1wet2;", 4);
        fault("wet1 2;", 5);
        fault("wet12;", 3);
        fault("wet1\t;", 4);
        fault("wet\n1;", 3);
        fault("we t1;", 0);
        String most = " ".repeat(114);
        reads(most + "wet 1;", 1);
        reads("wet 1;" + most, 1);
        reads("wet" + most + "1 ;", 1);
        reads(most + "      ", 0);
    }

    // ---- FAULTS

    private static void faults() {
        doc.says("a word that is none", FaultTest::wordsThatAreNone);
        doc.says("a run of two figures or more (at its first one)", FaultTest::runs);
        doc.says("a number not as told", FaultTest::numbersNotAsTold);
        doc.says("a 9th stone at its word", FaultTest::ninthStone);
        doc.says("a byte that begins none, too", FaultTest::bytesThatBeginNone);
        doc.says("the TEXT's length, if it ends too early", FaultTest::endsTooEarly);
        doc.says("(one that is empty or has blanks alone has none)", FaultTest::emptyTexts);
        doc.says("FAULT: the place of the first byte of the first TOKEN that can not stand there", FaultTest::firstOfFaults);
        doc.says("-10 less the FAULT: all stays.", FaultTest::allStays);
    }

    private static void wordsThatAreNone() {
        String[] none = {"s", "st", "sto", "ston", "stones", "stonee", "sstone", "tone", "w", "we", "wets", "wwet", "et", "kerb", "a", "z",
            "stonewet", "wetstone", "stonestone", "enots", "tew", "wett", "stont", "stane", "wat", "xet"};
        for (String word : none) {
            fault(word, 0);
            fault(word + " 1;", 0);
            fault(word + "1;", 0);
            fault("wet 1;  " + word + " 1;", 8);
            fault("wet 1; " + word, 7);
            fault("wet " + word + ";", 4);
            fault("wet 1 " + word + ";", 6);
        }
        fault("STONE 1;", 0);
        fault("Stone 1;", 0);
        fault("sTone 1;", 0);
        fault("stonE 1;", 0);
        fault("wE 1;", 0);
        fault("wet wet 1;", 4);
        fault("stone stone 1;", 6);
        fault("stone 1 stone 1;", 8);
        fault("z".repeat(120), 0);
    }

    private static void runs() {
        String[] runs = {"00", "01", "10", "12", "99", "000", "0000000000", "2147483648", "4294967297", "9".repeat(100)};
        for (String run : runs) {
            fault("stone " + run + ";", 6);
            fault("stone" + run + ";", 5);
            fault("wet   " + run + " ;", 6);
            fault("wet " + run, 4);
            fault(run + ";", 0);
            fault("wet 1 " + run + ";", 6);
        }
        fault("wet" + "1".repeat(117), 3);
        reads("wet1;wet 1;", 2);
    }

    private static void numbersNotAsTold() {
        fault("stone 6;", 6);
        fault("stone 9;", 6);
        fault("stone   9   ;", 8);
        fault("wet 4;", 4);
        fault("wet4;", 3);
        fault("wet 9", 4);
        fault("stone 6", 6);
        fault("stone 5;wet 5;", 12);
        fault("wet 3;stone 3;wet 4;", 18);
    }

    private static void ninthStone() {
        reads(EIGHT, 8);
        reads(EIGHT + "wet 1;", 9);
        fault(EIGHT + "stone2;", 56);
        fault(EIGHT + "  stone 2;", 58);
        fault(EIGHT + "stone", 56);
        fault(EIGHT + "stone 9;", 56);
        fault(EIGHT + "stone;", 56);
        fault(EIGHT + "stones 1;", 56);
        fault(EIGHT + "wet 1;stone 1;", 62);
        fault(EIGHT + "wet 4;stone 1;", 60);
        fault(EIGHT + "wet 1;wet 2;wet", 71);
        // stones that lie there ahead of it don't count
        KerbBall x = Made.full();
        x.clear();
        Made.type(x, EIGHT);
        doc.same("8 stones take the place of 8", x.read(), 8);
        doc.same("8 stones again", x.read(), 8);
        doc.same("8 of them", x.count(0), 8);
    }

    private static void bytesThatBeginNone() {
        int[] none = {0, 1, 9, 10, 13, 31, 33, 45, 46, 47, 58, 60, 64, 65, 90, 91, 95, 96, 123, 127, 128, 160, 176, 178, 223, 225, 250, 255};
        for (int b : none) {
            String sign = String.valueOf((char) b);
            fault(sign, 0);
            fault("  " + sign, 2);
            fault("wet" + sign + "1;", 3);
            fault("wet 1" + sign + ";", 5);
            fault("wet 1;" + sign, 6);
            fault("wet 1; " + sign + "wet 1;", 7);
        }
        fault("wet -1;", 4);
        fault("wet +1;", 4);
        fault("wet 1.0;", 5);
    }

    /** Each beginning of a text. */
    private static void endsTooEarly() {
        String text = "stone 5;wet 3;";
        int[] due = {READ, 0, 0, 0, 0, 5, 6, 7, READ, 8, 8, 11, 12, 13, READ};
        for (int length = 0; length <= text.length(); length++) {
            String begun = text.substring(0, length);
            if (due[length] == READ) {
                reads(begun, length / 7);
            } else {
                fault(begun, due[length]);
            }
        }
        fault("stone ", 6);
        fault("stone    ", 9);
        fault("stone 5   ", 10);
        fault(" ".repeat(117) + "wet", 120);
        fault(" ".repeat(116) + "wet1", 120);
        fault("wet" + " ".repeat(117), 120);
        fault("wet1" + " ".repeat(116), 120);
    }

    private static void emptyTexts() {
        KerbBall x = Made.busy();
        x.clear();
        doc.same("an empty one", x.read(), 0);
        doc.same("no STONES", x.count(0), 0);
        doc.same("WET is 0", x.count(1), 0);
        for (int blanks = 1; blanks <= 120; blanks++) {
            reads(" ".repeat(blanks), 0);
        }
        doc.same("of a new object", new KerbBall().read(), 0);
    }

    private static void firstOfFaults() {
        fault("wet 4;wet 5;", 4);
        fault("wet 1;x;wet 9;", 6);
        fault("wet;wet", 3);
        fault(";;", 0);
        fault("wet 1;;", 6);
        fault("; wet 1;", 0);
        fault("1;", 0);
        fault("stone;", 5);
        fault("stone 1 1;", 8);
        fault("stone 1", 7);
        fault("wet 1 ! ;", 6);
        fault("wet 12 x", 4);
    }

    private static KerbBall busyWith(String text) {
        KerbBall x = Made.busy();
        x.clear();
        Made.type(x, text);
        return x;
    }

    private static void allStays() {
        String[] texts = {"x", "stone 0;stone 1;wet 3;stone 6;", "wet 3;wet", "stone 5;stone", "stone 4;;", EIGHT + "stone 1;", "wet 2;stone 4",
            "stone 3;wet 0;#"};
        int[] places = {0, 28, 9, 13, 8, 56, 13, 14};
        for (int i = 0; i < texts.length; i++) {
            String text = texts[i];
            Twins.changesNothing(doc.checks, doc.of("'" + text + "'"), () -> busyWith(text), -10 - places[i], x -> x.read());
        }
        KerbBall x = new KerbBall();
        Made.type(x, "stone 5;stone 4;wet 2");
        doc.same("ends too early", x.read(), -31);
        doc.same("no STONES yet", x.count(0) + x.count(1), 0);
        Made.type(x, ";");
        doc.same("goes on where it ended", x.read(), 3);
        doc.same("each stone once", x.count(0), 2);
        doc.same("WET", x.count(1), 2);
    }

    // ---- a STREET that is read

    private static void streets() {
        doc.says("A STREET that is read takes the place of STONES, WET, points, who is on (nothing may be undone, THE BOOK stays).",
                FaultTest::takesThePlace);
        doc.says("THE STREET is read (THE TEXT stays): how many ITEMS.", FaultTest::textStays);
    }

    private static void takesThePlace() {
        KerbBall x = busyWith("stone 4;");
        doc.same("ahead of it a score", x.score(0) + x.score(1) + x.on() > 0 ? 1 : 0, 1);
        doc.same("ahead of it something may be undone", x.count(2), 2);
        long above = x.part(0);
        long below = x.part(1);
        doc.same("read", x.read(), 1);
        doc.same("STONES", x.count(0), 1);
        doc.same("the kind", x.way(0, 9, 4), Made.EDGE);
        doc.same("WET, which is not told, is 0", x.count(1), 0);
        doc.same("points of 0", x.score(0), 0);
        doc.same("points of 1", x.score(1), 0);
        doc.same("who is on", x.on(), 0);
        doc.same("nothing may be undone", x.count(2), 0);
        doc.same("nothing is undone", x.undo(), -3);
        doc.same("THE BOOK stays", x.count(4), 2);
        doc.same("as it was told", x.book(1), 15);
        doc.same("THE FRACTION stays, above", x.part(0), above);
        doc.same("THE FRACTION stays, below", x.part(1), below);
        doc.same("the images stay", x.from(1), 1);
        doc.same("as they were", x.count(0), 3);
    }

    private static void textStays() {
        KerbBall x = new KerbBall();
        String most = "wet0;".repeat(23) + "wet3;";
        Made.type(x, most);
        doc.same("24 ITEMS in 120 bytes", x.read(), 24);
        doc.same("the last one", x.count(1), 3);
        doc.same("the text", x.count(3), 120);
        x.wet(1);
        doc.same("again", x.read(), 24);
        doc.same("the last one again", x.count(1), 3);
        KerbBall y = busyWith("stone 1 x");
        doc.same("with a fault", y.read(), -18);
        doc.same("it stays, too", y.count(3), 9);
    }
}
