import java.util.ArrayList;
import java.util.Arrays;
import java.util.List;
import java.util.Random;

/** Stories, nights and knocks made by chance, each answer compared with a slow one that tries everything. */
public final class OracleTest {
    private static final Expect EXPECT = new Expect("OracleTest");
    private static final int NONE = ShadowNight.NONE;
    private static final Random CHANCE = new Random(20261118L);

    private static int scenes;
    private static final int[] SHOWN = new int[12];
    private static final int[] HELD = new int[12];
    private static final int[] LEAST = new int[12];
    private static final int[] MOST = new int[12];
    private static final boolean[] FIRM = new boolean[12];
    private static final int[] FROM = new int[12];
    private static final int[] TO = new int[12];
    private static final int[] NEEDS = new int[12];

    public static void main(String[] args) {
        for (int i = 0; i < 4000; i++) {
            faults();
        }
        for (int i = 0; i < 150; i++) {
            hands(1 + CHANCE.nextInt(8), 1 + CHANCE.nextInt(4));
        }
        for (int i = 0; i < 3; i++) {
            hands(5 + CHANCE.nextInt(4), 6);
        }
        for (int i = 0; i < 200; i++) {
            trunks(1 + CHANCE.nextInt(12), 1 + CHANCE.nextInt(6));
        }
        for (int i = 0; i < 4; i++) {
            trunks(12, 8);
        }
        for (int i = 0; i < 400; i++) {
            nights(1 + CHANCE.nextInt(i < 380 ? 6 : 12));
        }
        for (int i = 0; i < 1500; i++) {
            knocks();
        }
        for (int i = 0; i < 200; i++) {
            shortest();
        }
        for (int i = 0; i < 300; i++) {
            outlines();
        }
        for (int i = 0; i < 5000; i++) {
            shadows(i % 2 == 0 ? 3 : 99);
        }
        EXPECT.end();
    }

    // ---- texts: a reader that goes from state to state, sign by sign

    private static void faults() {
        String likely = "abABcCH0159-!/ /1 1";
        StringBuilder signs = new StringBuilder();
        int n = CHANCE.nextInt(14);
        for (int i = 0; i < n; i++) {
            signs.append(likely.charAt(CHANCE.nextInt(likely.length())));
        }
        ShadowNight x = new ShadowNight();
        Expect.write(x, 2, signs.toString());
        EXPECT.due("fault of '" + signs + "'", x.fault(2), slowFault(signs.toString()));
    }

    /** The first place from which no sign can be put so that the beginning goes on to a story. */
    private static int slowFault(String t) {
        String state = "ahead";
        String hides = "";
        int capitals = 0;
        int least = 0;
        int length = 0;
        for (int i = 0; i < t.length(); i++) {
            char c = t.charAt(i);
            boolean inLength = state.equals("least1") || state.equals("least2") || state.equals("most1") || state.equals("most2");
            boolean inMost = state.startsWith("most");
            boolean figure = c >= '0' && c <= '9';
            if (inLength && (!figure || state.endsWith("2"))) {
                if (length == 0 || inMost && length < least) {
                    return i;
                }
                least = inMost ? least : length;
            }
            if (state.equals("ahead") && c == ' ') {
                continue;
            }
            if (state.equals("ahead") || state.equals("scene") || state.equals("letters")) {
                if ("abcdefghABCDEFGH".indexOf(c) >= 0) {
                    boolean capital = c < 'a';
                    String small = ("" + c).toLowerCase();
                    if (hides.contains(small) || capital && capitals == 2) {
                        return i;
                    }
                    hides += small;
                    capitals += capital ? 1 : 0;
                    state = "letters";
                } else if (figure) {
                    length = c - '0';
                    state = "least1";
                } else {
                    return i;
                }
            } else if (state.equals("dash")) {
                if (!figure) {
                    return i;
                }
                length = c - '0';
                state = "most1";
            } else if (figure && state.endsWith("1")) {
                length = 10 * length + c - '0';
                state = state.replace('1', '2');
            } else if (c == '-' && state.startsWith("least")) {
                state = "dash";
            } else if (c == '!' && inLength) {
                state = "bang";
            } else if (c == '/' && (inLength || state.equals("bang"))) {
                hides = "";
                capitals = 0;
                state = "scene";
            } else if (c == ' ' && (inLength || state.equals("bang") || state.equals("behind"))) {
                state = "behind";
            } else {
                return i;
            }
        }
        if (state.startsWith("least") && length == 0 || state.startsWith("most") && length < least) {
            return t.length();
        }
        boolean whole = state.startsWith("least") || state.startsWith("most") || state.equals("bang") || state.equals("behind");
        return whole ? NONE : t.length();
    }

    // ---- stories

    private static ShadowNight storyOf(int n, int hides) {
        scenes = n;
        StringBuilder signs = new StringBuilder();
        List<Integer> numbers = new ArrayList<>();
        for (int k = 0; k < 8; k++) {
            numbers.add(k);
        }
        java.util.Collections.shuffle(numbers, CHANCE);
        for (int s = 0; s < n; s++) {
            SHOWN[s] = 0;
            HELD[s] = 0;
            FROM[s] = NONE;
            NEEDS[s] = 0;
            int room = 60 / n - 4;
            for (int i = 0; i < hides && Integer.bitCount(SHOWN[s]) < room; i++) {
                int k = numbers.get(CHANCE.nextInt(hides));
                if ((SHOWN[s] >> k & 1) == 0 && CHANCE.nextInt(3) > 0) {
                    boolean capital = Integer.bitCount(HELD[s]) < 2 && CHANCE.nextInt(3) == 0;
                    SHOWN[s] |= 1 << k;
                    HELD[s] |= capital ? 1 << k : 0;
                    signs.append((char) ((capital ? 'A' : 'a') + k));
                }
            }
            LEAST[s] = 1 + CHANCE.nextInt(9);
            MOST[s] = CHANCE.nextBoolean() && n < 12 ? LEAST[s] + CHANCE.nextInt(10 - LEAST[s]) : LEAST[s];
            FIRM[s] = CHANCE.nextInt(5) == 0;
            signs.append(LEAST[s]);
            if (MOST[s] != LEAST[s]) {
                signs.append('-').append(MOST[s]);
            }
            if (FIRM[s]) {
                signs.append('!');
            }
            signs.append(s < n - 1 ? "/" : "");
        }
        ShadowNight x = new ShadowNight();
        EXPECT.due("story '" + signs + "'", Expect.tell(x, signs.toString()), n);
        for (int s = 0; s < n; s++) {
            int[] due = {SHOWN[s], HELD[s], LEAST[s], MOST[s], FIRM[s] ? 1 : 0};
            for (int what = 0; what < 5; what++) {
                x.scene(s, what);
                EXPECT.due("scene of '" + signs + "'", x.asked(), due[what]);
            }
        }
        return x;
    }

    private static int named() {
        int all = 0;
        for (int s = 0; s < scenes; s++) {
            all |= SHOWN[s];
        }
        return all;
    }

    // ---- hands: all states with a left and a right hand, every one against every one

    private static final int[][] COST = {{0, 2, 1, 1}, {2, 0, 1, 1}, {1, 1, 0, 2}, {1, 1, 2, 0}};

    private static void hands(int n, int hides) {
        ShadowNight x = storyOf(n, hides);
        EXPECT.due("hands()", x.hands(), slowHands());
    }

    private static int slowHands() {
        int[] numbers = new int[8];
        int many = 0;
        for (int k = 0; k < 8; k++) {
            if ((named() >> k & 1) != 0) {
                numbers[many++] = k;
            }
        }
        int all = 1 << 2 * many;
        List<Integer> states = new ArrayList<>();
        for (int state = 0; state < all; state++) {
            int left = 0;
            int right = 0;
            for (int h = 0; h < many; h++) {
                left += (state >> 2 * h & 3) == 2 ? 1 : 0;
                right += (state >> 2 * h & 3) == 3 ? 1 : 0;
            }
            if (left < 2 && right < 2) {
                states.add(state);
            }
        }
        int far = 1 << 20;
        int[] costs = new int[all];
        Arrays.fill(costs, far);
        costs[0] = 0;
        for (int s = 0; s <= scenes; s++) {
            int[] next = new int[all];
            Arrays.fill(next, far);
            for (int to : states) {
                if (!fits(to, s, numbers, many)) {
                    continue;
                }
                for (int from : states) {
                    if (costs[from] < far) {
                        int sum = costs[from];
                        for (int h = 0; h < many; h++) {
                            sum += COST[from >> 2 * h & 3][to >> 2 * h & 3];
                        }
                        next[to] = Math.min(next[to], sum);
                    }
                }
            }
            costs = next;
        }
        return costs[0];
    }

    private static boolean fits(int state, int s, int[] numbers, int many) {
        if (s == scenes) {
            return state == 0;
        }
        for (int h = 0; h < many; h++) {
            int where = state >> 2 * h & 3;
            if ((HELD[s] >> numbers[h] & 1) != 0 && where < 2 || (SHOWN[s] >> numbers[h] & 1) != 0 && where < 1) {
                return false;
            }
        }
        return true;
    }

    // ---- the trunk: all orders, by places' HIDES

    private static int[] leastOrder;
    private static int leastReaching;

    private static void trunks(int n, int hides) {
        ShadowNight x = storyOf(n, hides);
        List<Integer> taken = new ArrayList<>();
        for (int s = 0; s < n; s++) {
            for (int k = 0; k < 8; k++) {
                boolean ahead = s > 0 && (SHOWN[s - 1] >> k & 1) != 0;
                if ((SHOWN[s] >> k & 1) != 0 && !ahead) {
                    taken.add(k);
                }
            }
        }
        EXPECT.due("takings()", x.takings(), taken.size());
        EXPECT.due("takings() asked()", x.asked(), taken.isEmpty() ? NONE : taken.get(taken.size() - 1));
        int many = Integer.bitCount(named());
        leastReaching = Integer.MAX_VALUE;
        tryOrders(new int[many], 0, named(), taken);
        EXPECT.due("trunk(3)", x.trunk(3), leastReaching);
        for (int i = 0; i < many; i++) {
            EXPECT.due("order " + i, Expect.look(x, 3, i), leastOrder[i]);
        }
        EXPECT.due("reaching(3)", x.reaching(3), leastReaching);
    }

    private static void tryOrders(int[] order, int place, int left, List<Integer> taken) {
        if (left == 0) {
            int sum = reach(order, taken);
            if (sum < leastReaching) {
                leastReaching = sum;
                leastOrder = order.clone();
            }
            return;
        }
        for (int k = 0; k < 8; k++) {
            if ((left >> k & 1) != 0) {
                order[place] = k;
                tryOrders(order, place + 1, left & ~(1 << k), taken);
            }
        }
    }

    private static int reach(int[] order, List<Integer> taken) {
        int[] where = new int[8];
        for (int i = 0; i < order.length; i++) {
            where[order[i]] = i;
        }
        int sum = 0;
        int now = 0;
        for (int k : taken) {
            sum += Math.abs(where[k] - now);
            now = where[k];
        }
        return sum;
    }

    // ---- the night: all beginnings that can be reached, second by second

    private static void nights(int n) {
        ShadowNight x = storyOf(n, 1 + CHANCE.nextInt(5));
        for (int i = CHANCE.nextInt(4); i > 0; i--) {
            int s = CHANCE.nextInt(n);
            FROM[s] = CHANCE.nextInt(5 * s + 3);
            TO[s] = FROM[s] + CHANCE.nextInt(7);
            x.markScene(s, FROM[s], TO[s]);
        }
        for (int i = CHANCE.nextInt(3); i > 0; i--) {
            int s = CHANCE.nextInt(n);
            int k = CHANCE.nextInt(8);
            boolean shown = (SHOWN[s] >> k & 1) != 0;
            EXPECT.due("need", x.need(s, k), shown ? 1 : ShadowNight.BAD);
            NEEDS[s] |= shown ? 1 << k : 0;
        }
        int best = NONE;
        for (int cut = 0; cut < 1 << n; cut++) {
            boolean good = isGood(cut, NONE, 0);
            if (good && (best == NONE || lengthOf(cut) < lengthOf(best))) {
                best = cut;
            }
            if (n < 7) {
                EXPECT.due("good(" + cut + ")", x.good(cut), good ? 1 : 0);
                onceCut(x, cut, CHANCE.nextInt(n));
            }
        }
        EXPECT.due("best()", x.best(), best);
        if (best != NONE) {
            EXPECT.due("best() asked()", x.asked(), lengthOf(best));
        }
        for (int i = 0; i < 20; i++) {
            tale(x, CHANCE.nextInt(256) & (i < 15 ? named() : 255));
        }
    }

    private static void onceCut(ShadowNight x, int cut, int s) {
        boolean[] begin = beginnings(cut, s, NONE, 0);
        int first = NONE;
        int last = NONE;
        for (int time = 0; time < begin.length && (cut >> s & 1) == 0; time++) {
            if (begin[time]) {
                first = first == NONE ? time : first;
                last = time;
            }
        }
        EXPECT.due("begins(" + cut + ", " + s + ")", x.begins(cut, s), first);
        if (first != NONE) {
            EXPECT.due("begins() asked()", x.asked(), last);
        }
        int most = NONE;
        for (int l = 0; l < 100; l++) {
            most = isGood(cut, s, l) ? l : most;
        }
        int due = (cut >> s & 1) != 0 ? ShadowNight.BAD : most;
        EXPECT.due("laughter(" + cut + ", " + s + ")", x.laughter(cut, s), due);
    }

    private static int lengthOf(int set) {
        int sum = 0;
        for (int s = 0; s < scenes; s++) {
            sum += (set >> s & 1) != 0 ? LEAST[s] : 0;
        }
        return sum;
    }

    /** When scene s (or, s being the number of scenes, the end) can begin. */
    private static boolean[] beginnings(int cut, int s, int laughing, int laughter) {
        boolean[] now = new boolean[400];
        now[0] = true;
        for (int i = 0; i <= s; i++) {
            if ((cut >> i & 1) != 0 || i == scenes) {
                continue;
            }
            for (int time = 0; time < now.length; time++) {
                now[time] &= FROM[i] == NONE || time >= FROM[i] && time <= TO[i];
            }
            if (i == s) {
                break;
            }
            boolean[] next = new boolean[now.length];
            int least = i == laughing ? LEAST[i] + laughter : LEAST[i];
            int most = i == laughing ? LEAST[i] + laughter : MOST[i];
            for (int time = 0; time < now.length; time++) {
                for (int l = least; now[time] && l <= most; l++) {
                    next[time + l] = true;
                }
            }
            now = next;
        }
        return now;
    }

    private static boolean isGood(int cut, int laughing, int laughter) {
        for (int s = 0; s < scenes; s++) {
            boolean isCut = (cut >> s & 1) != 0;
            if (isCut && (FIRM[s] || FROM[s] != NONE)) {
                return false;
            }
            for (int k = 0; k < 8 && !isCut; k++) {
                boolean shown = (NEEDS[s] >> k & 1) == 0;
                for (int e = 0; e < s; e++) {
                    shown |= (cut >> e & 1) == 0 && (SHOWN[e] >> k & 1) != 0;
                }
                if (!shown) {
                    return false;
                }
            }
        }
        for (boolean reached : beginnings(cut, scenes, laughing, laughter)) {
            if (reached) {
                return true;
            }
        }
        return false;
    }

    private static void tale(ShadowNight x, int wish) {
        int best = NONE;
        for (int set = 0; set < 1 << scenes; set++) {
            int shown = 0;
            for (int s = 0; s < scenes; s++) {
                shown |= (set >> s & 1) != 0 ? SHOWN[s] : 0;
            }
            if ((wish & ~shown) == 0 && (best == NONE || worth(set) < worth(best))) {
                best = set;
            }
        }
        EXPECT.due("tale(" + wish + ")", x.tale(wish), best);
        if (best != NONE) {
            EXPECT.due("tale() asked()", x.asked(), lengthOf(best));
        }
    }

    private static long worth(int set) {
        return Integer.bitCount(set) * 100000000L + lengthOf(set) * 10000L + set;
    }

    // ---- knocks: every row of knocks up to a length, in how many ways it can be read

    private static void knocks() {
        ShadowNight x = new ShadowNight();
        String[] signs = new String[8];
        Arrays.fill(signs, "");
        for (int i = 1 + CHANCE.nextInt(4); i > 0; i--) {
            int sign = CHANCE.nextInt(8);
            int n = 1 + CHANCE.nextInt(3);
            x.row(0, n);
            signs[sign] = "";
            for (int j = 0; j < n; j++) {
                int knock = CHANCE.nextInt(2);
                x.lay(0, j, knock);
                signs[sign] += knock;
            }
            x.knock(sign, 0);
        }
        int clear = NONE;
        for (int a = 7; a >= 0; a--) {
            for (int b = 7; b >= 0; b--) {
                if (a != b && !signs[a].isEmpty() && signs[b].startsWith(signs[a])) {
                    clear = 10 * a + b;
                }
            }
        }
        String all = Arrays.toString(signs);
        EXPECT.due("clear() of " + all, x.clear(), clear);
        EXPECT.due("sure() of " + all, x.sure(), slowSure(signs) ? 1 : 0);
    }

    private static boolean slowSure(String[] signs) {
        for (int n = 1; n <= 11; n++) {
            for (int bits = 0; bits < 1 << n; bits++) {
                String row = Integer.toBinaryString(1 << n | bits).substring(1);
                long[] ways = new long[n + 1];
                ways[0] = 1;
                for (int at = 0; at < n; at++) {
                    for (String sign : signs) {
                        if (!sign.isEmpty() && ways[at] > 0 && row.startsWith(sign, at)) {
                            ways[at + sign.length()] += ways[at];
                        }
                    }
                }
                if (ways[n] > 1) {
                    return false;
                }
            }
        }
        return true;
    }

    /** All lengths of signs that can be CLEAR (a sum of halves that is at most 1). */
    private static void shortest() {
        int n = 1 + CHANCE.nextInt(6);
        int[] often = new int[n];
        ShadowNight x = new ShadowNight();
        x.row(1, n);
        for (int i = 0; i < n; i++) {
            often[i] = 1 + CHANCE.nextInt(CHANCE.nextBoolean() ? 99 : 8);
            x.lay(1, i, often[i]);
        }
        EXPECT.due("shortest of " + Arrays.toString(often), x.shortest(1), slowShortest(often, 0, 64, 0));
    }

    private static int slowShortest(int[] often, int i, int left, int sum) {
        if (i == often.length) {
            return sum;
        }
        int least = Integer.MAX_VALUE;
        for (int knocks = 1; knocks <= 6; knocks++) {
            if (64 >> knocks <= left) {
                least = Math.min(least, slowShortest(often, i + 1, left - (64 >> knocks), sum + often[i] * knocks));
            }
        }
        return least;
    }

    // ---- outlines: cell by cell

    private static void outlines() {
        ShadowNight x = new ShadowNight();
        int[] outline = new int[8];
        int base = 1 + CHANCE.nextInt(65535);
        for (int k = 0; k < 8; k++) {
            if (CHANCE.nextBoolean()) {
                outline[k] = CHANCE.nextBoolean() ? base ^ 1 << CHANCE.nextInt(16) : 1 + CHANCE.nextInt(65535);
                outline[k] = outline[k] == 0 ? 1 : outline[k];
                x.hide(k, 1, 1, outline[k]);
            }
        }
        EXPECT.due("leastApart()", x.leastApart(), slowLeast(outline));
        for (int k = 0; k < 8; k++) {
            if (outline[k] == 0) {
                continue;
            }
            int idle = 0;
            for (int cell = 0; cell < 16; cell++) {
                int[] without = outline.clone();
                without[k] &= ~(1 << cell);
                if (without[k] != 0 && without[k] != outline[k] && slowLeast(without) >= slowLeast(outline)) {
                    idle |= 1 << cell;
                }
            }
            EXPECT.due("matters(" + k + ")", x.matters(k), idle);
        }
    }

    // ---- shadows: by their ends as fractions

    private static void shadows(int off) {
        ShadowNight x = new ShadowNight();
        int d = 2 + CHANCE.nextInt(59);
        int g = CHANCE.nextInt(10);
        int[] width = {1 + CHANCE.nextInt(60), 1 + CHANCE.nextInt(60)};
        int[] height = {1 + CHANCE.nextInt(60), 1 + CHANCE.nextInt(60)};
        int[] z = {CHANCE.nextInt(d), CHANCE.nextInt(d)};
        int[] at = {CHANCE.nextInt(2 * off + 1) - off, CHANCE.nextInt(2 * off + 1) - off};
        x.lamp(d, g);
        for (int k = 0; k < 2; k++) {
            x.hide(k, width[k], height[k], 1);
            int[] upper = {width[k] * d, height[k] * d, at[k] * d, g * z[k]};
            for (int what = 0; what < 4; what++) {
                x.shadow(k, z[k], at[k], what);
                EXPECT.due("shadow, in proportion", x.upper() * (d - z[k]), upper[what] * x.lower());
                boolean lowest = java.math.BigInteger.valueOf(x.upper()).gcd(java.math.BigInteger.valueOf(x.lower())).intValue() == 1;
                EXPECT.due("shadow, lowest terms", lowest && x.lower() > 0 ? 1 : 0, 1);
            }
        }
        // ends in parts of 1 by (2 (d - z) (d - w)), the one shadow's by the other's distance
        long[] middle = {2L * at[0] * d * (d - z[1]), 2L * at[1] * d * (d - z[0])};
        long[] half = {(long) width[0] * d * (d - z[1]), (long) width[1] * d * (d - z[0])};
        boolean covers = middle[0] - half[0] <= middle[1] - half[1] && middle[0] + half[0] >= middle[1] + half[1];
        EXPECT.due("covers", x.covers(0, z[0], at[0], 1, z[1], at[1]), covers ? 1 : 0);
        int wanted = 1 + CHANCE.nextInt(200);
        int answer = x.place(0, wanted);
        EXPECT.due("place, NONE", answer == NONE ? 1 : 0, wanted < width[0] ? 1 : 0);
        if (answer != NONE) {
            EXPECT.due("place, whole", answer, x.lower() == 1 ? 1 : 0);
            EXPECT.due("place, wide there", (long) wanted * (d * x.lower() - x.upper()), (long) width[0] * d * x.lower());
        }
    }

    private static int slowLeast(int[] outline) {
        int least = NONE;
        for (int a = 0; a < 8; a++) {
            for (int b = 0; b < a; b++) {
                if (outline[a] != 0 && outline[b] != 0) {
                    int between = Math.min(differing(outline[a], outline[b], false), differing(outline[a], outline[b], true));
                    least = least == NONE ? between : Math.min(least, between);
                }
            }
        }
        return least;
    }

    private static int differing(int a, int b, boolean turned) {
        int cells = 0;
        for (int y = 0; y < 4; y++) {
            for (int x = 0; x < 4; x++) {
                int other = 4 * y + (turned ? 3 - x : x);
                cells += (a >> 4 * y + x & 1) != (b >> other & 1) ? 1 : 0;
            }
        }
        return cells;
    }
}
