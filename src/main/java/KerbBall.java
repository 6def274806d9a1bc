import java.util.Arrays;

/** Balls thrown against the kerb: the promises of DOC.md, one object a street with its game. */
public final class KerbBall {
    public static final int NONE = -1, BAD = -2, NO = -3, FULL = -4;

    private static final int STONES = 8, WET = 3, STANDS = 20, YARDS = 30, TEXT = 120;
    private static final int HITS = 6, REACH = 40, TURNS = 8, DOUBLE_BEHIND = 20, CAR_THROWS = 40;
    private static final int LOT = 12, BOTH_BEHIND = 4, BOOK = 12, EVENING = 60, SEED = 999999, UNDO = 10;
    private static final int BAD_BEST = -10, BAD_WINS = -100, BAD_SIDES = -1000, BAD_STATUS = -1;
    private static final int FAULT_BASE = -10;
    private static final int SLIPS_OF_FORCE = 4;
    private static final long FIRST_OF_DIGEST = 823;

    private final Held now = new Held();
    private final Held[] images = {new Held(), new Held()};
    private final boolean[] kept = new boolean[2];
    private final StreetText text = new StreetText();
    private final Fraction fraction = new Fraction();
    private final Spread spread = new Spread();
    private final BestThrows bests = new BestThrows();
    private final long[] chances = new long[DOUBLE_BEHIND + 1];
    private final int[] refused = new int[3];

    public KerbBall() {
    }

    // ---- a street

    public int stone(int kind) {
        if (!within(kind, 0, Kerb.LAST_KIND)) {
            return bad(BAD);
        }
        if (now.stones.many >= STONES) {
            return full();
        }
        now.stones.lay(kind);
        return now.stones.many - 1;
    }

    public int wet(int n) {
        if (!within(n, 0, WET)) {
            return bad(BAD);
        }
        int before = now.stones.wetness;
        now.stones.wetness = n;
        return before;
    }

    public int type(long v, int n) {
        if (!within(n, 1, 8)) {
            return bad(BAD);
        }
        if (text.many + n > TEXT) {
            return full();
        }
        for (int i = n - 1; i >= 0; i--) {
            text.append((int) ((v >>> (8 * i)) & 255L));
        }
        return text.many;
    }

    public int clear() {
        int before = text.many;
        text.many = 0;
        return before;
    }

    public int read() {
        int fault = text.faultOfText();
        if (fault != NONE) {
            return FAULT_BASE - fault;
        }
        now.stones.copyFrom(text.draft);
        now.game.beginAnew();
        return text.items;
    }

    // ---- throws

    public int way(int stone, int f, int s) {
        if (!isThrow(stone, f, s)) {
            return bad(BAD);
        }
        return Kerb.wayOf(now.stones.kindOf(stone), now.stones.wetness, f, s);
    }

    public int back(int stone, int f, int s) {
        if (!isThrow(stone, f, s)) {
            return bad(BAD);
        }
        int kind = now.stones.kindOf(stone);
        return Kerb.yardsOf(Kerb.wayOf(kind, now.stones.wetness, f, s), kind, f, s);
    }

    public int points(int stone, int f, int s, int y) {
        if (!isThrow(stone, f, s) || !isStand(y)) {
            return bad(BAD);
        }
        return thrown(stone, f, s, y);
    }

    public int odds(int stone, int f, int s, int way) {
        if (!isThrow(stone, f, s) || !within(way, Kerb.SHORT, Kerb.TOP)) {
            return bad(BAD);
        }
        gather(stone, f, s);
        return spread.casesOfWay(way);
    }

    public int mean(int stone, int f, int s, int y) {
        if (!isThrow(stone, f, s) || !isStand(y)) {
            return bad(BAD);
        }
        gather(stone, f, s);
        return spread.pointsAt(y);
    }

    public int best(int stone, int what) {
        boolean told = stone == NONE || now.stones.has(stone);
        if (!told || !within(what, BestThrows.POINTS, BestThrows.STAND)) {
            return bad(BAD_BEST);
        }
        bests.reckon(now.stones, spread);
        int which = stone == NONE ? bestStone() : stone;
        return which == NONE ? NONE : bests.partOf(now.stones, which, what);
    }

    public int line(int stone, int f, int s) {
        if (!isThrow(stone, f, s)) {
            return bad(BAD);
        }
        gather(stone, f, s);
        return spread.bestStands();
    }

    // ---- the middle, games

    public int middle(int q, int m, int r) {
        if (!isChance(q) || !within(m, 0, HITS) || !within(r, 0, HITS)) {
            return bad(BAD);
        }
        fraction.hold(Odds.middleCases(q, m, r), Odds.allCases(m));
        return 1;
    }

    public int stop(int q, int r) {
        if (!isChance(q) || !within(r, 0, HITS)) {
            return bad(BAD);
        }
        return Odds.bestStop(q, r);
    }

    public long wins(int a, int b, int t, int n, int c, int d) {
        boolean told = within(a, 0, REACH) && within(b, 0, REACH)
                && within(t, 1, REACH) && within(n, 0, TURNS)
                && isChance(c) && isChance(d) && isChance(c + d);
        if (!told) {
            return bad(BAD_WINS);
        }
        return a >= t ? Odds.allCases(n) : Odds.winCases(t - a, t - b, n, c, d);
    }

    public int twofold(int d, int k, int p, int q) {
        boolean told = within(d, 0, DOUBLE_BEHIND) && within(k, 0, TURNS)
                && isChance(p) && isChance(q);
        if (!told) {
            return bad(BAD);
        }
        boolean firstIsDouble = Odds.chooseAhead(chances, d, k, p, q);
        fraction.hold(chances[d], Odds.allCases(k));
        return firstIsDouble ? 1 : 0;
    }

    public int cars(int k, int c, int v) {
        if (!within(k, 0, CAR_THROWS) || !within(c, 0, 10) || !within(v, 0, 10)) {
            return bad(BAD);
        }
        fraction.hold(k * c * v, 100);
        return 1;
    }

    public int judge(int stone, int f, int s, int yards) {
        if (!isThrow(stone, f, s) || !within(yards, 0, YARDS)) {
            return bad(BAD);
        }
        gather(stone, f, s);
        if (spread.casesBack(yards) == 0) {
            return no();
        }
        fraction.hold(spread.edgesBack(yards), spread.casesBack(yards));
        return 1;
    }

    public int lot(int n, int a, int m, int b) {
        boolean told = within(n, 1, LOT) && within(m, 1, LOT)
                && within(a, 0, n) && within(b, 0, m);
        if (!told) {
            return bad(BAD);
        }
        fraction.hold(Odds.dealsWithAtLeast(n, a, m, b), Odds.choices(n + m, a + b));
        return 1;
    }

    public int both(int d, int p, int q, int r, int u) {
        boolean told = within(d, 0, BOTH_BEHIND)
                && isChance(p) && isChance(q) && isChance(r) && isChance(u);
        if (!told) {
            return bad(BAD);
        }
        int plainPlain = Odds.casesLevel(d, 1, p, 1, r);
        int plainDouble = Odds.casesLevel(d, 1, p, 2, u);
        int doublePlain = Odds.casesLevel(d, 2, q, 1, r);
        int doubleDouble = Odds.casesLevel(d, 2, q, 2, u);
        holdSureChance(plainPlain, plainDouble, doublePlain, doubleDouble);
        return Odds.rests(plainPlain, doublePlain, plainDouble) + Odds.rests(plainDouble, doubleDouble, plainPlain)
                + Odds.rests(doublePlain, plainPlain, doubleDouble) + Odds.rests(doubleDouble, plainDouble, doublePlain);
    }

    public int sides(int c) {
        if (!within(c, 1, now.stones.many - 1)) {
            return bad(BAD_SIDES);
        }
        bests.reckon(now.stones, spread);
        return mostPoints(0, c, NONE) - mostPoints(c, now.stones.many, NONE);
    }

    public int worth(int stone) {
        if (!now.stones.has(stone)) {
            return bad(BAD);
        }
        bests.reckon(now.stones, spread);
        return mostPoints(0, now.stones.many, NONE) - mostPoints(0, now.stones.many, stone);
    }

    public int write(int stone, int f, int s, int y, int slips, int points) {
        boolean told = within(stone, 0, STONES - 1) && isForce(f) && isSteepness(s) && isStand(y)
                && within(slips, 0, 8) && (points == 0 || points == Kerb.BOUNCED || points == Kerb.CAUGHT);
        if (!told) {
            return bad(BAD);
        }
        if (now.written.many >= BOOK) {
            return full();
        }
        now.written.add(stone, f, s, y, slips, points);
        return now.written.many;
    }

    public int tear() {
        int before = now.written.many;
        now.written.many = 0;
        return before;
    }

    public int book(int what) {
        if (!within(what, 0, 1)) {
            return bad(BAD);
        }
        return what == 0 ? firstWrong() : now.written.told(0, now.written.many);
    }

    public int hours(int k) {
        if (!within(k, 1, BOOK)) {
            return bad(BAD);
        }
        return now.written.bestRow(k);
    }

    public int evening(int stone, int f, int s, int y, int n, int seed) {
        boolean told = isThrow(stone, f, s) && isStand(y)
                && within(n, 0, EVENING) && within(seed, 0, SEED);
        if (!told) {
            return bad(BAD);
        }
        long x = seed;
        int sum = 0;
        for (int i = 0; i < n; i++) {
            x = (x * 1103515245L + 12345L) % 2147483648L;
            int drawn = (int) (x / 65536L % 16L);
            int slipF = slipOf(drawn / SLIPS_OF_FORCE);
            int slipS = slipOf(drawn % SLIPS_OF_FORCE);
            sum += thrown(stone, f + slipF, s + slipS, y);
        }
        return sum;
    }

    // ---- playing

    public int play(int stone, int f, int s, int y, int slipF, int slipS) {
        boolean told = isThrow(stone, f, s) && isStand(y)
                && within(slipF, -1, 1) && within(slipS, -1, 1);
        if (!told) {
            return bad(BAD);
        }
        int gained = thrown(stone, f + slipF, s + slipS, y);
        now.game.add(gained);
        return gained;
    }

    public int undo() {
        if (now.game.undoable == 0) {
            return no();
        }
        now.game.takeBack();
        return 1;
    }

    public int score(int player) {
        if (!within(player, 0, 1)) {
            return bad(BAD);
        }
        return now.game.totals[player];
    }

    public int on() {
        return now.game.player;
    }

    // ---- what there is

    public long part(int what) {
        if (!within(what, 0, 1)) {
            return bad(BAD);
        }
        return what == 0 ? fraction.above : fraction.below;
    }

    public int image(int i) {
        if (!within(i, 0, 1)) {
            return bad(BAD);
        }
        images[i].copyFrom(now);
        kept[i] = true;
        return 1;
    }

    public int from(int i) {
        if (!within(i, 0, 1)) {
            return bad(BAD);
        }
        if (!kept[i]) {
            return no();
        }
        now.copyFrom(images[i]);
        return 1;
    }

    public int status(int what) {
        if (!within(what, 0, 2)) {
            return bad(BAD_STATUS);
        }
        return refused[what];
    }

    public int count(int what) {
        if (!within(what, 0, 4)) {
            return bad(BAD);
        }
        return numberOf(what);
    }

    public long digest() {
        long h = FIRST_OF_DIGEST;
        for (int what = 0; what <= 4; what++) {
            h = 31 * h + numberOf(what);
        }
        for (int i = 0; i < now.stones.many; i++) {
            h = 31 * h + now.stones.kindOf(i);
        }
        h = 31 * h + now.game.totals[0];
        h = 31 * h + now.game.totals[1];
        h = 31 * h + now.game.player;
        h = now.written.digestFrom(h);
        h = 31 * h + fraction.above;
        return 31 * h + fraction.below;
    }

    // ---- what is refused

    private int bad(int answer) {
        refused[0]++;
        return answer;
    }

    private int no() {
        refused[1]++;
        return NO;
    }

    private int full() {
        refused[2]++;
        return FULL;
    }

    private static boolean within(int n, int low, int high) {
        return n >= low && n <= high;
    }

    private boolean isThrow(int stone, int f, int s) {
        return now.stones.has(stone) && isForce(f) && isSteepness(s);
    }

    private static boolean isForce(int f) {
        return within(f, 1, 9);
    }

    private static boolean isSteepness(int s) {
        return within(s, 0, 9);
    }

    private static boolean isStand(int y) {
        return within(y, 0, STANDS);
    }

    private static boolean isChance(int cases) {
        return within(cases, 0, 16);
    }

    // ---- what several calls share

    private int thrown(int stone, int f, int s, int y) {
        return Kerb.pointsOf(now.stones.kindOf(stone), now.stones.wetness, f, s, y);
    }

    private void gather(int stone, int f, int s) {
        spread.gather(now.stones.kindOf(stone), now.stones.wetness, f, s);
    }

    private int bestStone() {
        int most = mostPoints(0, now.stones.many, NONE);
        for (int i = 0; i < now.stones.many; i++) {
            if (bests.partOf(now.stones, i, BestThrows.POINTS) == most) {
                return i;
            }
        }
        return NONE;
    }

    private int mostPoints(int first, int end, int without) {
        int most = 0;
        for (int i = first; i < end; i++) {
            int sum = bests.partOf(now.stones, i, BestThrows.POINTS);
            most = i != without && sum > most ? sum : most;
        }
        return most;
    }

    private static int slipOf(int quarter) {
        if (quarter == 0) {
            return -1;
        }
        return quarter == 3 ? 1 : 0;
    }

    private void holdSureChance(int plainPlain, int plainDouble, int doublePlain, int doubleDouble) {
        int sure = Math.max(Math.min(plainPlain, plainDouble), Math.min(doublePlain, doubleDouble));
        int allowed = Math.min(Math.max(plainPlain, doublePlain), Math.max(plainDouble, doubleDouble));
        if (sure == allowed) {
            fraction.hold(sure, Odds.CASES_OF_BOTH);
            return;
        }
        // without a pair that rests each makes the other's two picks alike by his lot
        long above = (long) plainPlain * doubleDouble - (long) plainDouble * doublePlain;
        long below = (long) plainPlain + doubleDouble - plainDouble - doublePlain;
        fraction.hold(above, below * Odds.CASES_OF_BOTH);
    }

    private int firstWrong() {
        for (int i = 0; i < now.written.many; i++) {
            if (!isRight(i)) {
                return i;
            }
        }
        return NONE;
    }

    private boolean isRight(int row) {
        Book written = now.written;
        int stone = written.cell(row, Book.STONE);
        if (!now.stones.has(stone)) {
            return false;
        }
        int slips = written.cell(row, Book.SLIPS);
        int f = written.cell(row, Book.FORCE) + slips / 3 - 1;
        int s = written.cell(row, Book.STEEPNESS) + slips % 3 - 1;
        return thrown(stone, f, s, written.cell(row, Book.STAND)) == written.cell(row, Book.POINTS);
    }

    private int numberOf(int what) {
        switch (what) {
            case 0:
                return now.stones.many;
            case 1:
                return now.stones.wetness;
            case 2:
                return now.game.undoable;
            case 3:
                return text.many;
            default:
                return now.written.many;
        }
    }

    /**
     * The told sums of a throw: what it strikes, how far it comes back, what that is worth. The document tells a kind
     * by the one above it; here each has its numbers at once, so that no call climbs from kind to kind.
     */
    private static final class Kerb {
        static final int ROUND = 1, DOWN = 2, WORN = 3, HIGH = 4, SLOPED = 5, LAST_KIND = 5;
        static final int SHORT = 0, FRONT = 1, EDGE = 2, TOP = 3;
        static final int BOUNCED = 5, CAUGHT = 10;

        static int lowestEdge(int kind) {
            switch (kind) {
                case DOWN:
                case SLOPED:
                    return 10;
                case WORN:
                    return 13;
                case HIGH:
                    return 17;
                default:
                    return 14;
            }
        }

        static int highestEdge(int kind) {
            switch (kind) {
                case ROUND:
                case WORN:
                    return 15;
                case DOWN:
                case SLOPED:
                    return 11;
                case HIGH:
                    return 19;
                default:
                    return 16;
            }
        }

        static int yardsOfEdge(int kind, int f, int s) {
            switch (kind) {
                case ROUND:
                case DOWN:
                    return Math.max(0, f + s - 2);
                case WORN:
                    return Math.max(0, (f + s - 2) / 2);
                case HIGH:
                    return f + s + 1;
                default:
                    return f + s;
            }
        }

        static int wayOf(int kind, int wet, int f, int s) {
            if (f - wet < 2) {
                return SHORT;
            }
            int height = 2 * s + f - wet;
            if (height < lowestEdge(kind)) {
                return FRONT;
            }
            return height <= highestEdge(kind) ? EDGE : TOP;
        }

        static int yardsOf(int way, int kind, int f, int s) {
            switch (way) {
                case FRONT:
                    return f / 2;
                case EDGE:
                    return yardsOfEdge(kind, f, s);
                default:
                    return 0;
            }
        }

        static int pointsOfEdge(int yards, int stand) {
            if (yards > stand + 1 || yards < stand - 4) {
                return 0;
            }
            return yards >= stand - 1 ? CAUGHT : BOUNCED;
        }

        static int pointsOf(int kind, int wet, int f, int s, int stand) {
            if (wayOf(kind, wet, f, s) != EDGE) {
                return 0;
            }
            return pointsOfEdge(yardsOfEdge(kind, f, s), stand);
        }
    }

    /** The 16 cases of one throw by its slips, gathered once so that every stand can be asked cheaply. */
    private static final class Spread {
        private final int[] ways = new int[Kerb.TOP + 1];
        private final int[] anyBack = new int[YARDS + 1];
        private final int[] edgeBack = new int[YARDS + 1];

        Spread() {
        }

        void gather(int kind, int wet, int f, int s) {
            Arrays.fill(ways, 0);
            Arrays.fill(anyBack, 0);
            Arrays.fill(edgeBack, 0);
            for (int slipF = -1; slipF <= 1; slipF++) {
                for (int slipS = -1; slipS <= 1; slipS++) {
                    int cases = (2 - Math.abs(slipF)) * (2 - Math.abs(slipS));
                    int way = Kerb.wayOf(kind, wet, f + slipF, s + slipS);
                    add(way, Kerb.yardsOf(way, kind, f + slipF, s + slipS), cases);
                }
            }
        }

        private void add(int way, int yards, int cases) {
            if (within(way, 0, Kerb.TOP)) {
                ways[way] += cases;
            }
            if (within(yards, 0, YARDS)) {
                anyBack[yards] += cases;
                edgeBack[yards] += way == Kerb.EDGE ? cases : 0;
            }
        }

        int casesOfWay(int way) {
            return within(way, 0, Kerb.TOP) ? ways[way] : 0;
        }

        int casesBack(int yards) {
            return within(yards, 0, YARDS) ? anyBack[yards] : 0;
        }

        int edgesBack(int yards) {
            return within(yards, 0, YARDS) ? edgeBack[yards] : 0;
        }

        int pointsAt(int stand) {
            int sum = 0;
            // no edge further off than these yards has points at the stand
            for (int yards = stand - 4; yards <= stand + 1; yards++) {
                sum += edgesBack(yards) * Kerb.pointsOfEdge(yards, stand);
            }
            return sum;
        }

        int bestStands() {
            int most = -1;
            int bits = 0;
            for (int stand = 0; stand <= STANDS; stand++) {
                int sum = pointsAt(stand);
                if (sum > most) {
                    most = sum;
                    bits = 0;
                }
                bits |= sum == most ? 1 << stand : 0;
            }
            return bits;
        }
    }

    /** The best throw of each kind in each wet, searched once: it hangs on nothing else. */
    private static final class BestThrows {
        static final int POINTS = 0, STONE = 1, FORCE = 2, STEEPNESS = 3, STAND = 4;
        private static final int STAND_CODES = STANDS + 1, WETS = WET + 1;

        // 0 is no code, as every force is above 0
        private final int[] codes = new int[(Kerb.LAST_KIND + 1) * WETS];

        BestThrows() {
        }

        void reckon(Stones stones, Spread spread) {
            for (int i = 0; i < stones.many; i++) {
                int place = placeOf(stones.kindOf(i), stones.wetness);
                if (place != NONE && codes[place] == 0) {
                    codes[place] = search(stones.kindOf(i), stones.wetness, spread);
                }
            }
        }

        /** A part of the best throw at a stone that was reckoned. */
        int partOf(Stones stones, int stone, int what) {
            int place = placeOf(stones.kindOf(stone), stones.wetness);
            int code = place == NONE ? 0 : codes[place];
            switch (what) {
                case STONE:
                    return stone;
                case STAND:
                    return code % STAND_CODES;
                case STEEPNESS:
                    return code / STAND_CODES % 10;
                case FORCE:
                    return code / STAND_CODES / 10 % 10;
                default:
                    return code / STAND_CODES / 100;
            }
        }

        private static int placeOf(int kind, int wet) {
            return within(kind, 0, Kerb.LAST_KIND) && within(wet, 0, WET) ? kind * WETS + wet : NONE;
        }

        private static int search(int kind, int wet, Spread spread) {
            int most = 0;
            int found = code(0, 1, 0, 0);
            for (int f = 1; f <= 9; f++) {
                for (int s = 0; s <= 9; s++) {
                    spread.gather(kind, wet, f, s);
                    for (int stand = 0; stand <= STANDS; stand++) {
                        int sum = spread.pointsAt(stand);
                        if (sum > most) {
                            most = sum;
                            found = code(sum, f, s, stand);
                        }
                    }
                }
            }
            return found;
        }

        private static int code(int sum, int f, int s, int stand) {
            return ((sum * 10 + f) * 10 + s) * STAND_CODES + stand;
        }
    }

    /** The reckonings of cases of 16, in whole numbers over a power of 16. */
    private static final class Odds {
        static final int CASES_OF_BOTH = 256;

        static long allCases(int turns) {
            return 1L << (4 * turns);
        }

        static long middleCases(int q, int m, int r) {
            long reached = 1;
            long sum = 0;
            for (int hits = 0; hits < m; hits++) {
                sum = 16 * sum + reached * (16 - q) * Math.max(0, hits - r);
                reached *= q;
            }
            return sum + reached * m;
        }

        static int bestStop(int q, int r) {
            int found = 0;
            long most = -1;
            for (int m = 0; m <= HITS; m++) {
                long sum = middleCases(q, m, r) * allCases(HITS - m);
                if (sum > most) {
                    most = sum;
                    found = m;
                }
            }
            return found;
        }

        /** Throws of the two don't touch each other, so each one's cases are counted apart. */
        static long winCases(int need, int otherNeed, int turns, int c, int d) {
            long sum = 0;
            for (int mine = 1; 2 * mine - 1 <= turns; mine++) {
                long reachedNow = 16 * casesBelow(need, mine - 1, c, d) - casesBelow(need, mine, c, d);
                long otherBelow = casesBelow(otherNeed, mine - 1, c, d);
                sum += reachedNow * otherBelow * allCases(turns - 2 * mine + 1);
            }
            return sum;
        }

        /** Cases in which so many throws of one player make less than he needs; four throws at most, so no deeper. */
        private static long casesBelow(int need, int left, int c, int d) {
            if (need <= 0) {
                return 0;
            }
            if (left <= 0) {
                return 1;
            }
            return c * casesBelow(need - Kerb.CAUGHT, left - 1, c, d)
                    + d * casesBelow(need - Kerb.BOUNCED, left - 1, c, d)
                    + (16 - c - d) * casesBelow(need, left - 1, c, d);
        }

        /** Fills the cases by points still needed; true if the first of the throws is to be a double. */
        static boolean chooseAhead(long[] cases, int behind, int left, int p, int q) {
            boolean firstIsDouble = false;
            Arrays.fill(cases, 0);
            if (behind >= cases.length) {
                return false;
            }
            cases[0] = 1;
            for (int turn = 1; turn <= left; turn++) {
                // from the highest down: a row with one throw fewer is still there below
                for (int need = behind; need >= 1; need--) {
                    long plain = p * cases[need - 1] + (16 - p) * cases[need];
                    long twice = q * cases[Math.max(0, need - 2)] + (16 - q) * cases[need];
                    firstIsDouble = need == behind ? twice > plain : firstIsDouble;
                    cases[need] = Math.max(plain, twice);
                }
                cases[0] = allCases(turn);
            }
            return firstIsDouble;
        }

        static long choices(int of, int taken) {
            if (taken < 0 || taken > of) {
                return 0;
            }
            long ways = 1;
            for (int i = 1; i <= taken; i++) {
                ways = ways * (of - taken + i) / i;
            }
            return ways;
        }

        static long dealsWithAtLeast(int n, int a, int m, int b) {
            long sum = 0;
            for (int first = a; first <= n; first++) {
                sum += choices(n, first) * choices(m, a + b - first);
            }
            return sum;
        }

        /** Of 256 cases, in how many one that is d behind is so no longer: his points by h of 16, the other's by o. */
        static int casesLevel(int d, int his, int h, int others, int o) {
            int cases = his - others >= d ? h * o : 0;
            cases += his >= d ? h * (16 - o) : 0;
            // a miss of his against the other one's points never is enough, as d is 0 at least
            return cases + (d <= 0 ? (16 - h) * (16 - o) : 0);
        }

        static int rests(int cases, int ifHeChanges, int ifOtherChanges) {
            return cases >= ifHeChanges && cases <= ifOtherChanges ? 1 : 0;
        }
    }

    /** A fraction in lowest terms, its lower part above 0. */
    private static final class Fraction {
        long above = 0;
        long below = 1;

        Fraction() {
        }

        void hold(long top, long bottom) {
            long shared = commonPart(Math.abs(top), Math.abs(bottom));
            if (bottom == 0 || shared == 0) {
                return;
            }
            long divisor = bottom < 0 ? -shared : shared;
            above = top / divisor;
            below = bottom / divisor;
        }

        private static long commonPart(long a, long b) {
            long large = a;
            long small = b;
            for (int i = 0; i < 1000 && small != 0; i++) {
                long rest = large % small;
                large = small;
                small = rest;
            }
            return large;
        }
    }

    /** The stones in their order, and how wet it is. */
    private static final class Stones {
        private final int[] kinds = new int[STONES];
        int many;
        int wetness;

        Stones() {
        }

        boolean has(int i) {
            return i >= 0 && i < many;
        }

        int kindOf(int i) {
            return has(i) && i < kinds.length ? kinds[i] : NONE;
        }

        void lay(int kind) {
            if (many < kinds.length) {
                kinds[many] = kind;
                many++;
            }
        }

        void copyFrom(Stones other) {
            System.arraycopy(other.kinds, 0, kinds, 0, kinds.length);
            many = other.many;
            wetness = other.wetness;
        }
    }

    /** Two players' points, who is on, and the last plays' points, by which they are undone. */
    private static final class Game {
        final int[] totals = new int[2];
        private final int[] gains = new int[UNDO];
        int player;
        int undoable;

        Game() {
        }

        void beginAnew() {
            totals[0] = 0;
            totals[1] = 0;
            player = 0;
            undoable = 0;
        }

        void add(int gained) {
            if (undoable == gains.length) {
                System.arraycopy(gains, 1, gains, 0, gains.length - 1);
                undoable--;
            }
            gains[undoable] = gained;
            undoable++;
            totals[player] += gained;
            player = 1 - player;
        }

        void takeBack() {
            if (undoable > 0) {
                undoable--;
                player = 1 - player;
                totals[player] -= gains[undoable];
            }
        }

        void copyFrom(Game other) {
            System.arraycopy(other.totals, 0, totals, 0, totals.length);
            System.arraycopy(other.gains, 0, gains, 0, gains.length);
            player = other.player;
            undoable = other.undoable;
        }
    }

    /** Throws as they were told, a row of cells for each. */
    private static final class Book {
        static final int STONE = 0, FORCE = 1, STEEPNESS = 2, STAND = 3, SLIPS = 4, POINTS = 5;
        private static final int CELLS = 6;

        private final int[] cells = new int[BOOK * CELLS];
        int many;

        Book() {
        }

        int cell(int row, int column) {
            int place = row * CELLS + column;
            return place >= 0 && place < cells.length ? cells[place] : 0;
        }

        void add(int stone, int f, int s, int stand, int slips, int points) {
            int start = many * CELLS;
            if (start + CELLS > cells.length) {
                return;
            }
            cells[start + STONE] = stone;
            cells[start + FORCE] = f;
            cells[start + STEEPNESS] = s;
            cells[start + STAND] = stand;
            cells[start + SLIPS] = slips;
            cells[start + POINTS] = points;
            many++;
        }

        int told(int first, int end) {
            int sum = 0;
            for (int row = first; row < end; row++) {
                sum += cell(row, POINTS);
            }
            return sum;
        }

        int bestRow(int length) {
            int found = NONE;
            int most = -1;
            for (int first = 0; first + length <= many; first++) {
                int sum = told(first, first + length);
                if (sum > most) {
                    most = sum;
                    found = first;
                }
            }
            return found;
        }

        long digestFrom(long h) {
            long sum = h;
            for (int row = 0; row < many; row++) {
                for (int column = 0; column < CELLS; column++) {
                    sum = 31 * sum + cell(row, column);
                }
            }
            return sum;
        }

        void copyFrom(Book other) {
            System.arraycopy(other.cells, 0, cells, 0, cells.length);
            many = other.many;
        }
    }

    /** All that an image keeps. */
    private static final class Held {
        final Stones stones = new Stones();
        final Game game = new Game();
        final Book written = new Book();

        Held() {
        }

        void copyFrom(Held other) {
            stones.copyFrom(other.stones);
            game.copyFrom(other.game);
            written.copyFrom(other.written);
        }
    }

    /** The bytes that were typed, read into a draft, so that a fault leaves the street as it is. */
    private static final class StreetText {
        private static final String STONE_WORD = "stone", WET_WORD = "wet";
        private static final char BLANK = ' ', END = ';';

        final Stones draft = new Stones();
        private final int[] bytes = new int[TEXT];
        int many;
        int items;
        private int at;

        StreetText() {
        }

        void append(int b) {
            if (many < bytes.length) {
                bytes[many] = b;
                many++;
            }
        }

        private int byteAt(int place) {
            return place >= 0 && place < many && place < bytes.length ? bytes[place] : NONE;
        }

        /** The place of the fault, or NONE. */
        int faultOfText() {
            draft.many = 0;
            draft.wetness = 0;
            at = 0;
            items = 0;
            skipBlanks();
            for (int i = 0; i < TEXT && at < many; i++) {
                if (!readsItem()) {
                    return at;
                }
                items++;
                skipBlanks();
            }
            return NONE;
        }

        /** Stops at the first byte of what can't stand there, which is the text's end if it ends too early. */
        private boolean readsItem() {
            boolean isStone = isWord(STONE_WORD);
            if (!isStone && !isWord(WET_WORD)) {
                return false;
            }
            if (isStone && draft.many >= STONES) {
                return false;
            }
            at += isStone ? STONE_WORD.length() : WET_WORD.length();
            skipBlanks();
            int number = numberHere();
            if (!within(number, 0, isStone ? Kerb.LAST_KIND : WET)) {
                return false;
            }
            at++;
            skipBlanks();
            if (byteAt(at) != END) {
                return false;
            }
            at++;
            keep(isStone, number);
            return true;
        }

        private void keep(boolean isStone, int number) {
            if (isStone) {
                draft.lay(number);
            } else {
                draft.wetness = number;
            }
        }

        private boolean isWord(String word) {
            for (int i = 0; i < word.length(); i++) {
                if (byteAt(at + i) != word.charAt(i)) {
                    return false;
                }
            }
            return !isLetter(byteAt(at + word.length()));
        }

        /** The number of one figure that stands here, NONE if there is none or its run is longer. */
        private int numberHere() {
            int b = byteAt(at);
            if (!isFigure(b) || isFigure(byteAt(at + 1))) {
                return NONE;
            }
            return b - '0';
        }

        private void skipBlanks() {
            while (at < many && byteAt(at) == BLANK) {
                at++;
            }
        }

        private static boolean isLetter(int b) {
            return b >= 'a' && b <= 'z';
        }

        private static boolean isFigure(int b) {
            return b >= '0' && b <= '9';
        }
    }
}
