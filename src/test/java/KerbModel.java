import java.math.BigInteger;
import java.util.ArrayDeque;
import java.util.ArrayList;
import java.util.HashMap;
import java.util.List;
import java.util.Map;

/** The document once more, written from its words in the slowest and most literal way, to hold the class against. */
final class KerbModel {
    private static final int[] PARENT = {-1, 0, 1, 1, 0, 2};
    private static final int[] SLIP_WEIGHT = {1, 2, 1};
    private static final BigInteger[] SIXTEEN = powers();

    private static final class State {
        List<Integer> stones = new ArrayList<>();
        int wet = 0;
        int[] score = {0, 0};
        int on = 0;
        ArrayDeque<int[]> undo = new ArrayDeque<>();
        List<int[]> book = new ArrayList<>();

        State copy() {
            State c = new State();
            c.stones.addAll(stones);
            c.wet = wet;
            c.score = score.clone();
            c.on = on;
            for (int[] u : undo) {
                c.undo.addLast(u.clone());
            }
            for (int[] row : book) {
                c.book.add(row.clone());
            }
            return c;
        }
    }

    private State now = new State();
    private final State[] image = new State[2];
    private final List<Integer> text = new ArrayList<>();
    private BigInteger above = BigInteger.ZERO;
    private BigInteger below = BigInteger.ONE;
    private final int[] refused = new int[3];

    private static BigInteger[] powers() {
        BigInteger[] p = new BigInteger[20];
        for (int i = 0; i < p.length; i++) {
            p[i] = BigInteger.valueOf(16).pow(i);
        }
        return p;
    }

    private static boolean in(long n, long low, long high) {
        return low <= n && n <= high;
    }

    private int bad(int answer) {
        refused[0]++;
        return answer;
    }

    private int no() {
        refused[1]++;
        return -3;
    }

    private int full() {
        refused[2]++;
        return -4;
    }

    private void fraction(BigInteger a, BigInteger b) {
        if (b.signum() < 0) {
            a = a.negate();
            b = b.negate();
        }
        BigInteger g = a.gcd(b);
        above = a.divide(g);
        below = b.divide(g);
    }

    // ---- the rules of a throw

    static int low(int kind) {
        switch (kind) {
            case 0: return 14;
            case 2: return low(PARENT[2]) - 4;
            case 3: return low(PARENT[3]) - 1;
            case 4: return low(PARENT[4]) + 3;
            default: return low(PARENT[kind]);
        }
    }

    static int high(int kind) {
        switch (kind) {
            case 0: return 16;
            case 1: return high(PARENT[1]) - 1;
            case 2: return high(PARENT[2]) - 4;
            case 4: return high(PARENT[4]) + 3;
            default: return high(PARENT[kind]);
        }
    }

    static int yards(int kind, int f, int s) {
        switch (kind) {
            case 0: return f + s;
            case 1: return Math.max(0, yards(PARENT[1], f, s) - 2);
            case 3: return yards(PARENT[3], f, s) / 2;
            case 4: return yards(PARENT[4], f, s) + 1;
            case 5: return yards(PARENT[5], f, s) + 2;
            default: return yards(PARENT[kind], f, s);
        }
    }

    private int wayAt(int kind, int f, int s) {
        int height = 2 * s + f - now.wet;
        return f - now.wet < 2 ? 0 : height < low(kind) ? 1 : height > high(kind) ? 3 : 2;
    }

    private int backAt(int kind, int f, int s) {
        int w = wayAt(kind, f, s);
        return w == 1 ? f / 2 : w == 2 ? yards(kind, f, s) : 0;
    }

    private int pointsAt(int kind, int f, int s, int y) {
        if (wayAt(kind, f, s) != 2) {
            return 0;
        }
        int b = yards(kind, f, s);
        if (b == y - 1 || b == y || b == y + 1) {
            return 10;
        }
        return b < y - 1 && b >= y - 4 ? 5 : 0;
    }

    private int meanAt(int kind, int f, int s, int y) {
        int sum = 0;
        for (int i = -1; i <= 1; i++) {
            for (int j = -1; j <= 1; j++) {
                sum += SLIP_WEIGHT[i + 1] * SLIP_WEIGHT[j + 1] * pointsAt(kind, f + i, s + j, y);
            }
        }
        return sum;
    }

    private static final int[][] BEST = new int[24][];

    /** points, stone (left 0), f, s, stand */
    private int[] bestOfKind(int kind) {
        int place = kind * 4 + now.wet;
        if (BEST[place] == null) {
            int[] found = null;
            for (int f = 1; f <= 9; f++) {
                for (int s = 0; s <= 9; s++) {
                    for (int y = 0; y <= 20; y++) {
                        int p = meanAt(kind, f, s, y);
                        if (found == null || p > found[0]) {
                            found = new int[] {p, 0, f, s, y};
                        }
                    }
                }
            }
            BEST[place] = found;
        }
        return BEST[place];
    }

    private int[] bestOf(List<Integer> which) {
        int[] found = null;
        for (int i : which) {
            int[] b = bestOfKind(now.stones.get(i)).clone();
            b[1] = i;
            if (found == null || b[0] > found[0]) {
                found = b;
            }
        }
        return found;
    }

    private List<Integer> stonesFrom(int first, int end, int without) {
        List<Integer> l = new ArrayList<>();
        for (int i = first; i < end; i++) {
            if (i != without) {
                l.add(i);
            }
        }
        return l;
    }

    private boolean thrown(int stone, int f, int s) {
        return in(stone, 0, now.stones.size() - 1) && in(f, 1, 9) && in(s, 0, 9);
    }

    // ---- the face

    int stone(int kind) {
        if (!in(kind, 0, 5)) return bad(-2);
        if (now.stones.size() == 8) return full();
        now.stones.add(kind);
        return now.stones.size() - 1;
    }

    int wet(int n) {
        if (!in(n, 0, 3)) return bad(-2);
        int was = now.wet;
        now.wet = n;
        return was;
    }

    int type(long v, int n) {
        if (!in(n, 1, 8)) return bad(-2);
        if (text.size() + n > 120) return full();
        String hex = String.format("%016x", v).substring(16 - 2 * n);
        for (int i = 0; i < n; i++) {
            text.add(Integer.parseInt(hex.substring(2 * i, 2 * i + 2), 16));
        }
        return text.size();
    }

    int clear() {
        int was = text.size();
        text.clear();
        return was;
    }

    /** All tokens first: place, and what it is (a word, one figure, ;, or ! for what is none). */
    int read() {
        List<Integer> place = new ArrayList<>();
        List<String> token = new ArrayList<>();
        int i = 0;
        while (i < text.size()) {
            int c = text.get(i);
            int j = i + 1;
            if (c == 32) {
                i++;
                continue;
            }
            place.add(i);
            if (c >= 97 && c <= 122) {
                while (j < text.size() && in(text.get(j), 97, 122)) j++;
                StringBuilder w = new StringBuilder();
                for (int k = i; k < j; k++) w.append((char) (int) text.get(k));
                token.add(w.toString());
            } else if (c >= 48 && c <= 57) {
                while (j < text.size() && in(text.get(j), 48, 57)) j++;
                token.add(j - i > 1 ? "!" : String.valueOf(c - 48));
            } else {
                token.add(c == 59 ? ";" : "!");
            }
            i = j;
        }
        place.add(text.size());
        List<Integer> stones = new ArrayList<>();
        int wet = 0;
        int items = 0;
        for (int t = 0; t < token.size(); t += 3) {
            String word = token.get(t);
            boolean laid = word.equals("stone");
            if (!laid && !word.equals("wet") || laid && stones.size() == 8) return -10 - place.get(t);
            String number = t + 1 < token.size() ? token.get(t + 1) : "";
            boolean one = number.length() == 1 && in(number.charAt(0), '0', laid ? '5' : '3');
            if (!one) return -10 - place.get(t + 1);
            if (t + 2 >= token.size() || !token.get(t + 2).equals(";")) return -10 - place.get(t + 2);
            if (laid) stones.add(number.charAt(0) - '0');
            else wet = number.charAt(0) - '0';
            items++;
        }
        State fresh = new State();
        fresh.stones = stones;
        fresh.wet = wet;
        fresh.book = now.book;
        now = fresh;
        return items;
    }

    int way(int stone, int f, int s) {
        return thrown(stone, f, s) ? wayAt(now.stones.get(stone), f, s) : bad(-2);
    }

    int back(int stone, int f, int s) {
        return thrown(stone, f, s) ? backAt(now.stones.get(stone), f, s) : bad(-2);
    }

    int points(int stone, int f, int s, int y) {
        return thrown(stone, f, s) && in(y, 0, 20) ? pointsAt(now.stones.get(stone), f, s, y) : bad(-2);
    }

    int odds(int stone, int f, int s, int way) {
        if (!thrown(stone, f, s) || !in(way, 0, 3)) return bad(-2);
        int sum = 0;
        int[] slip = {-1, 0, 0, 1};
        for (int i : slip) {
            for (int j : slip) {
                sum += wayAt(now.stones.get(stone), f + i, s + j) == way ? 1 : 0;
            }
        }
        return sum;
    }

    int mean(int stone, int f, int s, int y) {
        return thrown(stone, f, s) && in(y, 0, 20) ? meanAt(now.stones.get(stone), f, s, y) : bad(-2);
    }

    int best(int stone, int what) {
        if (!in(stone, -1, now.stones.size() - 1) || !in(what, 0, 4)) return bad(-10);
        if (now.stones.isEmpty()) return -1;
        return bestOf(stone == -1 ? stonesFrom(0, now.stones.size(), -1) : List.of(stone))[what];
    }

    int line(int stone, int f, int s) {
        if (!thrown(stone, f, s)) return bad(-2);
        int most = 0;
        for (int y = 0; y <= 20; y++) most = Math.max(most, meanAt(now.stones.get(stone), f, s, y));
        int bits = 0;
        for (int y = 0; y <= 20; y++) {
            if (meanAt(now.stones.get(stone), f, s, y) == most) bits += 1 << y;
        }
        return bits;
    }

    /** Over 16 to the m: by going through hit and miss, one throw behind the other. */
    private BigInteger middleFrom(int hits, int q, int m, int r) {
        if (hits == m) return BigInteger.valueOf(m);
        BigInteger miss = BigInteger.valueOf(Math.max(0, hits - r)).multiply(SIXTEEN[m - hits - 1]);
        return middleFrom(hits + 1, q, m, r).multiply(BigInteger.valueOf(q))
                .add(miss.multiply(BigInteger.valueOf(16 - q)));
    }

    int middle(int q, int m, int r) {
        if (!in(q, 0, 16) || !in(m, 0, 6) || !in(r, 0, 6)) return bad(-2);
        fraction(middleFrom(0, q, m, r), SIXTEEN[m]);
        return 1;
    }

    int stop(int q, int r) {
        if (!in(q, 0, 16) || !in(r, 0, 6)) return bad(-2);
        int found = 0;
        for (int m = 1; m <= 6; m++) {
            BigInteger a = middleFrom(0, q, m, r).multiply(SIXTEEN[found]);
            if (a.compareTo(middleFrom(0, q, found, r).multiply(SIXTEEN[m])) > 0) found = m;
        }
        return found;
    }

    private static long winsFrom(int[] p, int on, int t, int n, int c, int d) {
        if (p[0] >= t) return SIXTEEN[n].longValue();
        if (p[1] >= t || n == 0) return 0;
        long sum = 0;
        int[] gain = {10, 5, 0};
        int[] cases = {c, d, 16 - c - d};
        for (int i = 0; i < 3; i++) {
            p[on] += gain[i];
            sum += cases[i] == 0 ? 0 : cases[i] * winsFrom(p, 1 - on, t, n - 1, c, d);
            p[on] -= gain[i];
        }
        return sum;
    }

    long wins(int a, int b, int t, int n, int c, int d) {
        boolean told = in(a, 0, 40) && in(b, 0, 40) && in(t, 1, 40) && in(n, 0, 8)
                && in(c, 0, 16) && in(d, 0, 16) && in((long) c + d, 0, 16);
        return told ? winsFrom(new int[] {a, b}, 0, t, n, c, d) : bad(-100);
    }

    private static final Map<List<Integer>, BigInteger> TWO_FROM = new HashMap<>();

    private static BigInteger twoFrom(int d, int k, int p, int q) {
        if (k == 0 || d <= 0) return d <= 0 ? SIXTEEN[k] : BigInteger.ZERO;
        List<Integer> asked = List.of(d, k, p, q);
        BigInteger known = TWO_FROM.get(asked);
        if (known == null) {
            known = pick(d, k, p, 1, q).max(pick(d, k, q, 2, p));
            TWO_FROM.put(asked, known);
        }
        return known;
    }

    /** One pick: of (cases, points); the other one's cases only go along. */
    private static BigInteger pick(int d, int k, int cases, int points, int otherCases) {
        int p = points == 1 ? cases : otherCases;
        int q = points == 1 ? otherCases : cases;
        return twoFrom(d - points, k - 1, p, q).multiply(BigInteger.valueOf(cases))
                .add(twoFrom(d, k - 1, p, q).multiply(BigInteger.valueOf(16 - cases)));
    }

    int twofold(int d, int k, int p, int q) {
        if (!in(d, 0, 20) || !in(k, 0, 8) || !in(p, 0, 16) || !in(q, 0, 16)) return bad(-2);
        fraction(twoFrom(d, k, p, q), SIXTEEN[k]);
        return d > 0 && k > 0 && pick(d, k, q, 2, p).compareTo(pick(d, k, p, 1, q)) > 0 ? 1 : 0;
    }

    int cars(int k, int c, int v) {
        if (!in(k, 0, 40) || !in(c, 0, 10) || !in(v, 0, 10)) return bad(-2);
        fraction(BigInteger.valueOf((long) k * c * v), BigInteger.valueOf(100));
        return 1;
    }

    int judge(int stone, int f, int s, int yards) {
        if (!thrown(stone, f, s) || !in(yards, 0, 30)) return bad(-2);
        int any = 0;
        int edge = 0;
        int[] slip = {-1, 0, 0, 1};
        for (int i : slip) {
            for (int j : slip) {
                if (backAt(now.stones.get(stone), f + i, s + j) == yards) {
                    any++;
                    edge += wayAt(now.stones.get(stone), f + i, s + j) == 2 ? 1 : 0;
                }
            }
        }
        if (any == 0) return no();
        fraction(BigInteger.valueOf(edge), BigInteger.valueOf(any));
        return 1;
    }

    /** Deals that many hits to the throws, one throw behind the other: those by which the first ball has a at least. */
    private static long deals(int first, int second, int hits, int need) {
        // ways[i][j]: so far i hits, j of them of the first ball
        long[][] ways = new long[26][26];
        ways[0][0] = 1;
        for (int t = 0; t < first + second; t++) {
            for (int i = 24; i >= 0; i--) {
                for (int j = 24; j >= 0; j--) ways[i + 1][t < first ? j + 1 : j] += ways[i][j];
            }
        }
        long sum = 0;
        for (int j = need; j <= 25; j++) sum += ways[hits][j];
        return sum;
    }

    int lot(int n, int a, int m, int b) {
        if (!in(n, 1, 12) || !in(m, 1, 12) || !in(a, 0, n) || !in(b, 0, m)) return bad(-2);
        fraction(BigInteger.valueOf(deals(n, m, a + b, a)), BigInteger.valueOf(deals(n, m, a + b, 0)));
        return 1;
    }

    private static int level(int d, int h, int o, int his, int others) {
        int sum = 0;
        for (int i = 0; i < 16; i++) {
            for (int j = 0; j < 16; j++) {
                sum += (i < h ? his : 0) - (j < o ? others : 0) - d >= 0 ? 1 : 0;
            }
        }
        return sum;
    }

    int both(int d, int p, int q, int r, int u) {
        if (!in(d, 0, 4) || !in(p, 0, 16) || !in(q, 0, 16) || !in(r, 0, 16) || !in(u, 0, 16)) return bad(-2);
        int[][] g = {{level(d, p, r, 1, 1), level(d, p, u, 1, 2)}, {level(d, q, r, 2, 1), level(d, q, u, 2, 2)}};
        // what he's sure of by the lot x of w for the double: the lesser of two lines, greatest at an end or a crossing
        long w = Math.abs((long) g[0][0] - g[0][1] - g[1][0] + g[1][1]);
        w = Math.max(1, w);
        long top = -1;
        for (long x = 0; x <= w; x++) {
            long sure = Math.min((w - x) * g[0][0] + x * g[1][0], (w - x) * g[0][1] + x * g[1][1]);
            top = Math.max(top, sure);
        }
        fraction(BigInteger.valueOf(top), BigInteger.valueOf(w * 256));
        int rest = 0;
        for (int i = 0; i < 2; i++) {
            for (int j = 0; j < 2; j++) {
                rest += g[1 - i][j] > g[i][j] || g[i][1 - j] < g[i][j] ? 0 : 1;
            }
        }
        return rest;
    }

    int sides(int c) {
        if (!in(c, 1, now.stones.size() - 1)) return bad(-1000);
        return bestOf(stonesFrom(0, c, -1))[0] - bestOf(stonesFrom(c, now.stones.size(), -1))[0];
    }

    int worth(int stone) {
        if (!in(stone, 0, now.stones.size() - 1)) return bad(-2);
        int all = bestOf(stonesFrom(0, now.stones.size(), -1))[0];
        int[] rest = bestOf(stonesFrom(0, now.stones.size(), stone));
        return rest == null ? all : all - rest[0];
    }

    int write(int stone, int f, int s, int y, int slips, int points) {
        boolean told = in(stone, 0, 7) && in(f, 1, 9) && in(s, 0, 9) && in(y, 0, 20) && in(slips, 0, 8)
                && in(points, 0, 10) && points % 5 == 0;
        if (!told) return bad(-2);
        if (now.book.size() == 12) return full();
        now.book.add(new int[] {stone, f, s, y, slips, points});
        return now.book.size();
    }

    int tear() {
        int was = now.book.size();
        now.book.clear();
        return was;
    }

    int book(int what) {
        if (!in(what, 0, 1)) return bad(-2);
        int told = 0;
        for (int i = 0; i < now.book.size(); i++) {
            int[] b = now.book.get(i);
            boolean right = b[0] < now.stones.size()
                    && pointsAt(now.stones.get(b[0]), b[1] + b[4] / 3 - 1, b[2] + b[4] % 3 - 1, b[3]) == b[5];
            if (what == 0 && !right) return i;
            told += b[5];
        }
        return what == 0 ? -1 : told;
    }

    int hours(int k) {
        if (!in(k, 1, 12)) return bad(-2);
        int found = -1;
        int most = -1;
        for (int i = 0; i + k <= now.book.size(); i++) {
            int sum = 0;
            for (int[] b : now.book.subList(i, i + k)) sum += b[5];
            if (sum > most) {
                most = sum;
                found = i;
            }
        }
        return found;
    }

    int evening(int stone, int f, int s, int y, int n, int seed) {
        if (!thrown(stone, f, s) || !in(y, 0, 20) || !in(n, 0, 60) || !in(seed, 0, 999999)) return bad(-2);
        BigInteger x = BigInteger.valueOf(seed);
        int[] slip = {-1, 0, 0, 1};
        int sum = 0;
        for (int i = 0; i < n; i++) {
            x = x.multiply(BigInteger.valueOf(1103515245)).add(BigInteger.valueOf(12345))
                    .mod(BigInteger.valueOf(2147483648L));
            int drawn = x.divide(BigInteger.valueOf(65536)).mod(BigInteger.valueOf(16)).intValue();
            sum += pointsAt(now.stones.get(stone), f + slip[drawn / 4], s + slip[drawn % 4], y);
        }
        return sum;
    }

    int play(int stone, int f, int s, int y, int slipF, int slipS) {
        if (!thrown(stone, f, s) || !in(y, 0, 20) || !in(slipF, -1, 1) || !in(slipS, -1, 1)) return bad(-2);
        now.undo.addLast(new int[] {now.score[0], now.score[1], now.on});
        if (now.undo.size() > 10) now.undo.removeFirst();
        int p = pointsAt(now.stones.get(stone), f + slipF, s + slipS, y);
        now.score[now.on] += p;
        now.on = 1 - now.on;
        return p;
    }

    int undo() {
        if (now.undo.isEmpty()) return no();
        int[] u = now.undo.removeLast();
        now.score[0] = u[0];
        now.score[1] = u[1];
        now.on = u[2];
        return 1;
    }

    int score(int player) {
        return in(player, 0, 1) ? now.score[player] : bad(-2);
    }

    int on() {
        return now.on;
    }

    long part(int what) {
        return what == 0 ? above.longValueExact() : what == 1 ? below.longValueExact() : bad(-2);
    }

    int image(int i) {
        if (!in(i, 0, 1)) return bad(-2);
        image[i] = now.copy();
        return 1;
    }

    int from(int i) {
        if (!in(i, 0, 1)) return bad(-2);
        if (image[i] == null) return no();
        now = image[i].copy();
        return 1;
    }

    int status(int what) {
        return in(what, 0, 2) ? refused[what] : bad(-1);
    }

    int count(int what) {
        int[] c = {now.stones.size(), now.wet, now.undo.size(), text.size(), now.book.size()};
        return in(what, 0, 4) ? c[what] : bad(-2);
    }

    long digest() {
        List<Long> v = new ArrayList<>();
        for (int what = 0; what <= 4; what++) v.add((long) count(what));
        for (int kind : now.stones) v.add((long) kind);
        v.add((long) now.score[0]);
        v.add((long) now.score[1]);
        v.add((long) now.on);
        for (int[] b : now.book) for (int cell : b) v.add((long) cell);
        v.add(above.longValueExact());
        v.add(below.longValueExact());
        long h = 823;
        for (long x : v) h = 31 * h + x;
        return h;
    }
}
