import java.math.BigInteger;
import java.util.ArrayList;
import java.util.Arrays;
import java.util.HashMap;
import java.util.List;
import java.util.Map;
import java.util.PriorityQueue;
import java.util.TreeMap;
import java.util.TreeSet;
import java.util.regex.Matcher;
import java.util.regex.Pattern;

/**
 * The whole document once more, in its plainest form and by other ways than the class: what is missing is null, what
 * is refused is thrown, and what is least is found by trying everything. WholeRunsTest compares the two.
 */
final class PlainNight {
    private static final int NOTHING = 1, BEYOND = 2, UNLIKE = 3, NOUGHT = 4, SIZE = 5;
    private static final int NONE = -9;

    /** A call that is refused; FINDINGS are told by their number, the others by 0. */
    static final class Refused extends RuntimeException {
        private static final long serialVersionUID = 1L;
        final int answer;
        final int finding;

        Refused(int answer, int finding) {
            this.answer = answer;
            this.finding = finding;
        }
    }

    private static final class Part {
        final TreeSet<Integer> there = new TreeSet<>();
        final TreeSet<Integer> inHand = new TreeSet<>();
        int least;
        int most;
        boolean firm;
        int[] mark;
        final TreeSet<Integer> needs = new TreeSet<>();
    }

    private final int[][] rows = new int[6][];
    private final byte[][] texts = new byte[4][];
    private final int[][] hides = new int[8][];
    private int d = 30;
    private int g = 2;
    private List<Part> parts = new ArrayList<>();
    private final String[] signs = new String[8];
    private final List<int[]> moments = new ArrayList<>();
    private final Map<Integer, Integer> found = new TreeMap<>();
    private int finding = 0;
    private int asked = 0;
    private BigInteger upper = BigInteger.ZERO;
    private BigInteger lower = BigInteger.ONE;

    /** What the class should answer to a call. */
    long call(String name, int... n) {
        try {
            return answer(name, n);
        } catch (Refused refused) {
            if (refused.finding > 0) {
                finding = refused.finding;
                found.merge(finding, 1, Integer::sum);
            }
            return refused.answer;
        }
    }

    private long answer(String name, int[] n) {
        switch (name) {
            case "row": return row(n[0], n[1]);
            case "lay": return lay(n[0], n[1], n[2]);
            case "at": return ask(rowOf(n[0])[place(n[1], rowOf(n[0]).length)]);
            case "tear": return tear(n[0]);
            case "copy": return copy(n[0], n[1], n[2], n[3], n[4]);
            case "mean": return mean(n[0]);
            case "text": return text(n[0], n[1]);
            case "put": return put(n[0], n[1], n[2]);
            case "hide": return hide(n[0], n[1], n[2], n[3]);
            case "drop": return drop(n[0]);
            case "lamp": return lamp(n[0], n[1]);
            case "about": return about(n[0], n[1]);
            case "shadow": return shadow(n[0], n[1], n[2], n[3]);
            case "covers": return covers(n[0], n[1], n[2], n[3], n[4], n[5]);
            case "place": return placeFor(n[0], n[1]);
            case "fault": return read(new String(textOf(n[0]), java.nio.charset.StandardCharsets.ISO_8859_1), new ArrayList<>());
            case "story": return story(n[0]);
            case "scene": return ask(sceneNumber(partOf(n[0]), within(n[1], 0, 4)));
            case "hands": return hands();
            case "third": return third();
            case "takings": return takings();
            case "reaching": return reaching(n[0]);
            case "trunk": return trunk(n[0]);
            case "markScene": return markScene(n[0], n[1], n[2]);
            case "need": return need(n[0], n[1]);
            case "good": return isGood(cut(n[0]), NONE, 0) ? 1 : 0;
            case "best": return best();
            case "begins": return begins(n[0], n[1]);
            case "laughter": return laughter(n[0], n[1]);
            case "tale": return tale(n[0]);
            case "knock": return knock(n[0], n[1]);
            case "clear": return clear();
            case "sure": return isSure() ? 1 : 0;
            case "shortest": return shortest(n[0]);
            case "apart": return apartOf(n[0], n[1]);
            case "leastApart": return leastApart();
            case "matters": return matters(n[0]);
            case "moment": return moment(n[0], n[1], n[2], n[3], n[4]);
            case "told": return ask(momentOf(n[0])[within(n[1], 0, 4)]);
            case "mark": return mark(n[0], n[1]);
            case "seen": return seen(within(n[0], 0, 16), n[1] != 0);
            case "broken": return broken(within(n[0], 0, 7), within(n[1], 0, 32000), within(n[2], 0, 32000));
            case "mistaken": return mistaken();
            case "asked": return asked;
            case "upper": return upper.longValueExact();
            case "lower": return lower.longValueExact();
            case "count": return count(within(n[0], 0, 6));
            case "finding": return finding;
            case "findings": return found.getOrDefault(within(n[0], 1, 5), 0);
            case "digest": return digest();
            default: throw new IllegalStateException("no call " + name);
        }
    }

    // ---- refusals

    private static int bad(boolean fits) {
        if (fits) {
            throw new Refused(ShadowNight.BAD, 0);
        }
        return 0;
    }

    private static void finds(int which, boolean fits) {
        if (fits) {
            throw new Refused(ShadowNight.FINDING, which);
        }
    }

    private static int within(int v, int least, int most) {
        bad(v < least || v > most);
        return v;
    }

    private int[] rowOf(int r) {
        int[] row = rows[within(r, 0, 5)];
        finds(NOTHING, row == null);
        return row;
    }

    private byte[] textOf(int t) {
        byte[] text = texts[within(t, 0, 3)];
        finds(NOTHING, text == null);
        return text;
    }

    private int[] hideOf(int k) {
        int[] hide = hides[within(k, 0, 7)];
        finds(NOTHING, hide == null);
        return hide;
    }

    private Part partOf(int s) {
        return parts.get(within(s, 0, parts.size() - 1));
    }

    private int[] momentOf(int m) {
        return moments.get(within(m, 0, moments.size() - 1));
    }

    private static int place(int i, int size) {
        finds(BEYOND, i < 0 || i >= size);
        return i;
    }

    private int ask(int v) {
        asked = v;
        return 1;
    }

    private int tell(long above, long below) {
        BigInteger a = BigInteger.valueOf(above);
        BigInteger b = BigInteger.valueOf(below);
        upper = a.divide(a.gcd(b));
        lower = b.divide(a.gcd(b));
        return 1;
    }

    // ---- 1

    private int row(int r, int n) {
        within(r, 0, 5);
        bad(n > 40);
        finds(SIZE, n < 0);
        rows[r] = new int[n];
        return n;
    }

    private int lay(int r, int i, int v) {
        int[] row = rowOf(r);
        ask(row[place(i, row.length)]);
        row[i] = v;
        return 1;
    }

    private int tear(int r) {
        rowOf(r);
        rows[r] = null;
        return 1;
    }

    private int copy(int r, int i, int to, int j, int n) {
        within(r, 0, 5);
        within(to, 0, 5);
        finds(SIZE, n < 0);
        int[] from = rowOf(r).clone();
        int[] goal = rowOf(to);
        finds(BEYOND, i < 0 || j < 0 || (long) i + n > from.length || (long) j + n > goal.length);
        for (int each = 0; each < n; each++) {
            goal[j + each] = from[i + each];
        }
        return 1;
    }

    private int mean(int r) {
        int[] row = rowOf(r);
        finds(NOUGHT, row.length == 0);
        BigInteger sum = BigInteger.ZERO;
        for (int v : row) {
            sum = sum.add(BigInteger.valueOf(v));
        }
        return ask(sum.divide(BigInteger.valueOf(row.length)).intValueExact());
    }

    private int text(int t, int n) {
        within(t, 0, 3);
        bad(n > 60);
        finds(SIZE, n < 0);
        texts[t] = new byte[n];
        Arrays.fill(texts[t], (byte) ' ');
        return n;
    }

    private int put(int t, int i, int v) {
        byte[] text = textOf(t);
        int was = text[place(i, text.length)];
        text[i] = (byte) v;
        return was + 1000;
    }

    private int hide(int k, int width, int height, int outline) {
        within(k, 0, 7);
        hides[k] = new int[] {within(width, 1, 60), within(height, 1, 60), within(outline, 1, 65535)};
        return cells(outline).size();
    }

    private int drop(int k) {
        hideOf(k);
        hides[k] = null;
        return 1;
    }

    private int lamp(int newD, int newG) {
        within(newG, 0, 9);
        d = within(newD, 2, 60);
        g = newG;
        return 1;
    }

    private int about(int k, int what) {
        within(k, 0, 7);
        within(what, 0, 3);
        int[] hide = hideOf(k);
        return ask(what < 3 ? hide[what] : bits(turned(cells(hide[2]))));
    }

    private void held(int k, int z, int x) {
        within(k, 0, 7);
        within(z, 0, d - 1);
        within(x, -99, 99);
    }

    private int shadow(int k, int z, int x, int what) {
        held(k, z, x);
        within(what, 0, 3);
        int[] hide = hideOf(k);
        long[] above = {(long) hide[0] * d, (long) hide[1] * d, (long) x * d, (long) g * z};
        return tell(above[what], d - z);
    }

    private int covers(int k, int z, int x, int other, int w, int y) {
        held(k, z, x);
        held(other, w, y);
        // ends of both by one lower number, 2 (d - z) (d - w)
        long middle = 2L * x * d * (d - w);
        long half = (long) hideOf(k)[0] * d * (d - w);
        long otherMiddle = 2L * y * d * (d - z);
        long otherHalf = (long) hideOf(other)[0] * d * (d - z);
        return middle - half <= otherMiddle - otherHalf && middle + half >= otherMiddle + otherHalf ? 1 : 0;
    }

    private int placeFor(int k, int s) {
        within(k, 0, 7);
        within(s, 1, 9999);
        int width = hideOf(k)[0];
        if (s < width) {
            return NONE;
        }
        tell((long) d * s - (long) width * d, s);
        return lower.equals(BigInteger.ONE) ? 1 : 0;
    }

    // ---- 2

    private static final Pattern LENGTH = Pattern.compile("[0-9]{0,2}");

    /** The FAULT; without one, the scenes are in the list. */
    private static int read(String text, List<Part> into) {
        int spot = 0;
        while (spot < text.length() && text.charAt(spot) == ' ') {
            spot++;
        }
        boolean more = true;
        while (more) {
            if (into.size() == 12) {
                return spot - 1;
            }
            Part part = new Part();
            for (; spot < text.length() && "abcdefghABCDEFGH".indexOf(text.charAt(spot)) >= 0; spot++) {
                char letter = text.charAt(spot);
                boolean capital = Character.isUpperCase(letter);
                if (!part.there.add(Character.toLowerCase(letter) - 'a') || capital && part.inHand.size() == 2) {
                    return spot;
                }
                if (capital) {
                    part.inHand.add(letter - 'A');
                }
            }
            String length = lengthAt(text, spot);
            spot += length.length();
            if (length.isEmpty() || Integer.parseInt(length) == 0) {
                return spot;
            }
            part.least = Integer.parseInt(length);
            part.most = part.least;
            if (text.startsWith("-", spot)) {
                length = lengthAt(text, spot + 1);
                spot += 1 + length.length();
                if (length.isEmpty() || Integer.parseInt(length) < part.least) {
                    return spot;
                }
                part.most = Integer.parseInt(length);
            }
            part.firm = text.startsWith("!", spot);
            spot += part.firm ? 1 : 0;
            into.add(part);
            more = text.startsWith("/", spot);
            spot += more ? 1 : 0;
        }
        while (spot < text.length()) {
            if (text.charAt(spot) != ' ') {
                return spot;
            }
            spot++;
        }
        return NONE;
    }

    private static String lengthAt(String text, int spot) {
        Matcher figures = LENGTH.matcher(text).region(Math.min(spot, text.length()), text.length());
        return figures.lookingAt() ? figures.group() : "";
    }

    private int story(int t) {
        List<Part> told = new ArrayList<>();
        if (read(new String(textOf(t), java.nio.charset.StandardCharsets.ISO_8859_1), told) != NONE) {
            throw new Refused(ShadowNight.STATE, 0);
        }
        parts = told;
        return told.size();
    }

    private static int sceneNumber(Part part, int what) {
        int[] all = {bits(part.there), bits(part.inHand), part.least, part.most, part.firm ? 1 : 0};
        return all[what];
    }

    private TreeSet<Integer> named() {
        TreeSet<Integer> all = new TreeSet<>();
        for (Part part : parts) {
            all.addAll(part.there);
        }
        return all;
    }

    /** The cheapest way first, one HIDE's change after the other, with a left and a right hand. */
    private int hands() {
        List<Integer> own = new ArrayList<>(named());
        if (own.size() > 6) {
            return ShadowNight.SPENT;
        }
        int[][] costs = {{0, 2, 1, 1}, {2, 0, 1, 1}, {1, 1, 0, 2}, {1, 1, 2, 0}};
        // a way: cost, scene, HIDES whose change to that scene is settled, where each is now; its place as "where"
        PriorityQueue<int[]> ways = new PriorityQueue<>((a, b) -> Integer.compare(a[0], b[0]));
        Map<Long, Boolean> been = new HashMap<>();
        ways.add(new int[] {0, 0, 0, 0});
        while (!ways.isEmpty()) {
            int[] way = ways.remove();
            int scene = way[1];
            int settled = way[2];
            int where = way[3];
            if (been.put((long) where << 16 | scene << 8 | settled, true) != null) {
                continue;
            }
            if (settled == own.size()) {
                if (scene == parts.size()) {
                    return way[0];
                }
                if (eachHandHoldsOne(where, own.size())) {
                    ways.add(new int[] {way[0], scene + 1, 0, where});
                }
                continue;
            }
            int k = own.get(settled);
            int was = where >> 2 * settled & 3;
            for (int now = 0; now < 4; now++) {
                boolean fits = now == 0;
                if (scene < parts.size()) {
                    Part part = parts.get(scene);
                    fits = now >= (part.inHand.contains(k) ? 2 : part.there.contains(k) ? 1 : 0);
                }
                if (fits) {
                    int next = where & ~(3 << 2 * settled) | now << 2 * settled;
                    ways.add(new int[] {way[0] + costs[was][now], scene, settled + 1, next});
                }
            }
        }
        throw new IllegalStateException("no way");
    }

    private static boolean eachHandHoldsOne(int where, int many) {
        int[] holding = new int[4];
        for (int h = 0; h < many; h++) {
            holding[where >> 2 * h & 3]++;
        }
        return holding[2] < 2 && holding[3] < 2;
    }

    private int third() {
        for (int s = 0; s < parts.size(); s++) {
            if (parts.get(s).there.size() >= 3) {
                return s;
            }
        }
        return NONE;
    }

    private List<Integer> taken() {
        List<Integer> all = new ArrayList<>();
        TreeSet<Integer> ahead = new TreeSet<>();
        for (Part part : parts) {
            for (int k : part.there) {
                if (!ahead.contains(k)) {
                    all.add(k);
                }
            }
            ahead = part.there;
        }
        return all;
    }

    private int takings() {
        List<Integer> all = taken();
        ask(all.isEmpty() ? NONE : all.get(all.size() - 1));
        return all.size();
    }

    private static int reachingOf(List<Integer> order, List<Integer> taken) {
        int sum = 0;
        int now = 0;
        for (int k : taken) {
            sum += Math.abs(order.indexOf(k) - now);
            now = order.indexOf(k);
        }
        return sum;
    }

    private int reaching(int r) {
        List<Integer> order = new ArrayList<>();
        for (int k : rowOf(r)) {
            order.add(k);
        }
        finds(SIZE, order.size() != named().size());
        finds(UNLIKE, !new TreeSet<>(order).equals(named()));
        return reachingOf(order, taken());
    }

    private int trunk(int r) {
        within(r, 0, 5);
        List<Integer> best = leastOrder(new ArrayList<>(), new ArrayList<>(named()), taken(), null);
        rows[r] = new int[best.size()];
        for (int i = 0; i < best.size(); i++) {
            rows[r][i] = best.get(i);
        }
        return reachingOf(best, taken());
    }

    /** Of the orders that begin so and the least one of those tried before, the least. */
    private static List<Integer> leastOrder(List<Integer> begun, List<Integer> left, List<Integer> taken, List<Integer> before) {
        if (left.isEmpty()) {
            boolean better = before == null || reachingOf(begun, taken) < reachingOf(before, taken);
            return better ? new ArrayList<>(begun) : before;
        }
        List<Integer> best = before;
        for (int i = 0; i < left.size(); i++) {
            List<Integer> rest = new ArrayList<>(left);
            begun.add(rest.remove(i));
            best = leastOrder(begun, rest, taken, best);
            begun.remove(begun.size() - 1);
        }
        return best;
    }

    // ---- 3

    private int markScene(int s, int a, int b) {
        Part part = partOf(s);
        within(b, 0, 999);
        within(a, 0, b);
        if (part.mark == null && marked() == 4) {
            throw new Refused(ShadowNight.FULL, 0);
        }
        part.mark = new int[] {a, b};
        return marked();
    }

    private int marked() {
        int all = 0;
        for (Part part : parts) {
            all += part.mark != null ? 1 : 0;
        }
        return all;
    }

    private int need(int s, int k) {
        Part part = partOf(s);
        bad(!part.there.contains(k));
        part.needs.add(k);
        return 1;
    }

    private TreeSet<Integer> cut(int set) {
        bad(set < 0 || set >= 1 << parts.size());
        return cells(set);
    }

    /** The times at which scene s can begin, by MARKS alone; s behind the last: at which the night can end. */
    private TreeSet<Integer> beginnings(TreeSet<Integer> cut, int s, int laughing, int laughter) {
        TreeSet<Integer> now = new TreeSet<>();
        now.add(0);
        for (int i = 0; i <= s && i < parts.size(); i++) {
            Part part = parts.get(i);
            if (cut.contains(i)) {
                continue;
            }
            if (part.mark != null) {
                now.removeIf(time -> time < part.mark[0] || time > part.mark[1]);
            }
            if (i == s) {
                break;
            }
            TreeSet<Integer> next = new TreeSet<>();
            for (int time : now) {
                if (i == laughing) {
                    next.add(time + part.least + laughter);
                }
                for (int l = part.least; i != laughing && l <= part.most; l++) {
                    next.add(time + l);
                }
            }
            now = next;
        }
        return now;
    }

    private boolean isGood(TreeSet<Integer> cut, int laughing, int laughter) {
        TreeSet<Integer> shown = new TreeSet<>();
        for (int s = 0; s < parts.size(); s++) {
            Part part = parts.get(s);
            if (cut.contains(s)) {
                if (part.firm || part.mark != null) {
                    return false;
                }
                continue;
            }
            if (!shown.containsAll(part.needs)) {
                return false;
            }
            shown.addAll(part.there);
        }
        return !beginnings(cut, parts.size(), laughing, laughter).isEmpty();
    }

    private int leastOf(TreeSet<Integer> scenes) {
        int sum = 0;
        for (int s : scenes) {
            sum += parts.get(s).least;
        }
        return sum;
    }

    private int best() {
        int best = NONE;
        for (int set = 0; set < 1 << parts.size(); set++) {
            boolean less = best == NONE || leastOf(cells(set)) < leastOf(cells(best));
            if (less && isGood(cells(set), NONE, 0)) {
                best = set;
            }
        }
        if (best != NONE) {
            ask(leastOf(cells(best)));
        }
        return best;
    }

    private int begins(int set, int s) {
        TreeSet<Integer> cut = cut(set);
        partOf(s);
        TreeSet<Integer> times = beginnings(cut, s, NONE, 0);
        if (cut.contains(s) || times.isEmpty()) {
            return NONE;
        }
        ask(times.last());
        return times.first();
    }

    private int laughter(int set, int s) {
        TreeSet<Integer> cut = cut(set);
        partOf(s);
        bad(cut.contains(s));
        int most = NONE;
        for (int l = 0; l <= 99; l++) {
            most = isGood(cut, s, l) ? l : most;
        }
        return most;
    }

    private int tale(int wish) {
        TreeSet<Integer> wished = cells(within(wish, 0, 255));
        int best = NONE;
        for (int set = 0; set < 1 << parts.size(); set++) {
            TreeSet<Integer> shown = new TreeSet<>();
            for (int s : cells(set)) {
                shown.addAll(parts.get(s).there);
            }
            if (shown.containsAll(wished) && (best == NONE || isLess(cells(set), cells(best)))) {
                best = set;
            }
        }
        if (best != NONE) {
            ask(leastOf(cells(best)));
        }
        return best;
    }

    private boolean isLess(TreeSet<Integer> scenes, TreeSet<Integer> others) {
        boolean alike = scenes.size() == others.size();
        return scenes.size() < others.size() || alike && leastOf(scenes) < leastOf(others);
    }

    // ---- 4

    private int knock(int sign, int r) {
        within(sign, 0, 7);
        if (r == NONE) {
            signs[sign] = null;
            return 0;
        }
        int[] row = rowOf(r);
        finds(SIZE, row.length < 1 || row.length > 8);
        StringBuilder knocks = new StringBuilder();
        for (int v : row) {
            finds(UNLIKE, v != 0 && v != 1);
            knocks.append(v);
        }
        signs[sign] = knocks.toString();
        return row.length;
    }

    private int clear() {
        for (int a = 0; a < 8; a++) {
            for (int b = 0; b < 8; b++) {
                if (a != b && signs[a] != null && signs[b] != null && signs[b].startsWith(signs[a])) {
                    return 10 * a + b;
                }
            }
        }
        return NONE;
    }

    /** Two readings of one row of knocks, the one behind always going on; what the other is ahead is a text. */
    private boolean isSure() {
        List<String> ahead = new ArrayList<>();
        for (int a = 0; a < 8; a++) {
            for (int b = 0; b < 8; b++) {
                if (a != b && signs[a] != null && signs[b] != null && signs[a].startsWith(signs[b])) {
                    ahead.add(signs[a].substring(signs[b].length()));
                }
            }
        }
        for (int i = 0; i < ahead.size(); i++) {
            String rest = ahead.get(i);
            if (rest.isEmpty()) {
                return false;
            }
            for (String sign : signs) {
                String next = null;
                if (sign != null && sign.startsWith(rest)) {
                    next = sign.substring(rest.length());
                } else if (sign != null && rest.startsWith(sign)) {
                    next = rest.substring(sign.length());
                }
                if (next != null && !ahead.contains(next)) {
                    ahead.add(next);
                }
            }
        }
        return true;
    }

    private int shortest(int r) {
        int[] often = rowOf(r).clone();
        finds(SIZE, often.length < 1 || often.length > 8);
        for (int v : often) {
            finds(UNLIKE, v < 1 || v > 99);
        }
        if (often.length == 1) {
            return often[0];
        }
        Arrays.sort(often);
        return cheapest(often, often.length - 1, 1, 0);
    }

    /** Tree by its levels: from the most frequent sign on, each takes an end of this level, or all go a level down. */
    private static int cheapest(int[] often, int last, int ends, int depth) {
        if (last < 0) {
            return 0;
        }
        if (ends <= 0 || depth > 7) {
            return 1000000;
        }
        int taking = depth == 0 ? 1000000 : often[last] * depth + cheapest(often, last - 1, ends - 1, depth);
        int deeper = ends > last ? 1000000 : cheapest(often, last, 2 * ends, depth + 1);
        return Math.min(taking, depth == 0 ? cheapest(often, last, 2, 1) : deeper);
    }

    private static TreeSet<Integer> cells(int set) {
        TreeSet<Integer> all = new TreeSet<>();
        for (int i = 0; i < 31; i++) {
            if ((set & 1 << i) != 0) {
                all.add(i);
            }
        }
        return all;
    }

    private static int bits(TreeSet<Integer> all) {
        int set = 0;
        for (int i : all) {
            set += 1 << i;
        }
        return set;
    }

    private static TreeSet<Integer> turned(TreeSet<Integer> cells) {
        TreeSet<Integer> all = new TreeSet<>();
        for (int cell : cells) {
            int y = cell / 4;
            int x = cell % 4;
            all.add(4 * y + 3 - x);
        }
        return all;
    }

    private static int justOne(TreeSet<Integer> cells, TreeSet<Integer> others) {
        TreeSet<Integer> both = new TreeSet<>(cells);
        both.retainAll(others);
        return cells.size() + others.size() - 2 * both.size();
    }

    private static int apart(int outline, int other) {
        int asItIs = justOne(cells(outline), cells(other));
        return Math.min(asItIs, justOne(cells(outline), turned(cells(other))));
    }

    private int apartOf(int k, int other) {
        within(k, 0, 7);
        within(other, 0, 7);
        return apart(hideOf(k)[2], hideOf(other)[2]);
    }

    /** By how far they are APART, then by their numbers: the least two HIDES as {how far, 10 times one and the other}. */
    private int[] leastTwo() {
        int[] least = null;
        for (int k = 0; k < 8; k++) {
            for (int other = k + 1; other < 8; other++) {
                if (hides[k] != null && hides[other] != null) {
                    int far = apart(hides[k][2], hides[other][2]);
                    least = least == null || far < least[0] ? new int[] {far, 10 * k + other} : least;
                }
            }
        }
        return least;
    }

    private int leastApart() {
        int[] least = leastTwo();
        if (least == null) {
            return NONE;
        }
        ask(least[1]);
        return least[0];
    }

    private int matters(int k) {
        int[] hide = hideOf(k);
        int whole = hide[2];
        int[] least = leastTwo();
        TreeSet<Integer> idle = new TreeSet<>();
        for (int cell : cells(whole)) {
            hide[2] = whole - (1 << cell);
            if (hide[2] != 0 && (least == null || leastTwo()[0] >= least[0])) {
                idle.add(cell);
            }
        }
        hide[2] = whole;
        return bits(idle);
    }

    /** MOMENTS as told() tells them: KIND, second, HIDE, v, w. */
    private int moment(int second, int kind, int k, int v, int w) {
        within(second, 0, 32000);
        within(kind, 0, 6);
        boolean ofHide = kind != 0 && kind != 5;
        if (ofHide) {
            within(k, 0, 7);
        }
        int[] most = {Integer.MAX_VALUE, 1, 9, 1, 1, 7, 9};
        if (kind != 0) {
            within(v, 0, most[kind]);
        }
        if (kind == 3) {
            within(w, -99, 99);
        }
        if (kind == 4) {
            within(w, 0, 7);
            bad(w == k);
        }
        if (moments.size() == 40) {
            throw new Refused(ShadowNight.FULL, 0);
        }
        if (ofHide) {
            hideOf(k);
        }
        if (kind == 4) {
            hideOf(w);
        }
        moments.add(new int[] {kind, second, ofHide ? k : NONE, kind == 0 ? 0 : v, kind == 3 || kind == 4 ? w : 0});
        return moments.size() - 1;
    }

    private static boolean isHeld(int[] moment) {
        return moment[0] == 1 || moment[0] == 3 || moment[0] == 4;
    }

    private int mark(int m, int kind) {
        int[] moment = momentOf(m);
        within(kind, 1, 6);
        finds(UNLIKE, kind == 1 ? !isHeld(moment) : moment[0] != kind);
        if (kind == 5) {
            return signs[moment[3]] == null ? 0 : signs[moment[3]].length();
        }
        return kind == 3 || kind == 4 ? moment[4] : moment[3];
    }

    private int seen(int n, boolean behind) {
        int all = 0;
        for (int[] moment : moments) {
            int k = moment[2];
            boolean sees = k != NONE && hides[k] != null;
            for (int other = 0; other < 8 && sees && !behind; other++) {
                boolean another = other != k && hides[other] != null;
                sees = moment[0] != 6 && (!another || apart(hides[k][2], hides[other][2]) > n);
            }
            all += sees ? 1 : 0;
        }
        return all;
    }

    private int broken(int k, int from, int time) {
        List<Integer> missed = new ArrayList<>();
        for (int m = 0; m < moments.size(); m++) {
            int[] moment = moments.get(m);
            boolean ofIt = isHeld(moment) && (moment[2] == k || moment[0] == 4 && moment[4] == k);
            if (ofIt && moment[1] >= from && moment[1] < from + time) {
                missed.add(m);
            }
        }
        ask(missed.isEmpty() ? NONE : missed.get(0));
        return missed.size();
    }

    private int mistaken() {
        List<Integer> spoken = new ArrayList<>();
        for (int m = 0; m < moments.size(); m++) {
            if (moments.get(m)[0] == 6) {
                spoken.add(m);
            }
        }
        spoken.sort((a, b) -> moments.get(a)[1] != moments.get(b)[1] ? moments.get(a)[1] - moments.get(b)[1] : a - b);
        Map<Integer, Integer> voiceOf = new HashMap<>();
        Map<Integer, TreeSet<Integer>> speakers = new HashMap<>();
        List<Integer> wrong = new ArrayList<>();
        for (int m : spoken) {
            int k = moments.get(m)[2];
            int voice = moments.get(m)[3];
            voiceOf.putIfAbsent(k, voice);
            TreeSet<Integer> those = speakers.computeIfAbsent(voice, none -> new TreeSet<>());
            those.add(k);
            if (voiceOf.get(k) != voice || those.size() > 1) {
                wrong.add(m);
            }
        }
        ask(wrong.isEmpty() ? NONE : wrong.get(0));
        return wrong.size();
    }

    // ---- 5

    private int count(int what) {
        Object[][] all = {rows, texts, hides, parts.toArray(), signs, moments.toArray(), moments.toArray()};
        int there = 0;
        for (Object each : all[what]) {
            there += each != null && (what < 6 || isHeld((int[]) each)) ? 1 : 0;
        }
        return there;
    }

    private long digest() {
        List<Integer> all = new ArrayList<>();
        for (int what = 0; what < 7; what++) {
            all.add(count(what));
        }
        for (int[] hide : hides) {
            all.addAll(hide == null ? List.of(-1) : List.of(hide[0], hide[1], hide[2]));
        }
        all.addAll(List.of(d, g));
        for (Part part : parts) {
            for (int what = 0; what < 5; what++) {
                all.add(sceneNumber(part, what));
            }
            all.addAll(part.mark == null ? List.of(NONE, NONE) : List.of(part.mark[0], part.mark[1]));
            all.add(bits(part.needs));
        }
        for (String sign : signs) {
            all.add(sign == null ? -1 : sign.length());
            for (char knock : sign == null ? new char[0] : sign.toCharArray()) {
                all.add(knock - '0');
            }
        }
        for (int[] moment : moments) {
            for (int told : moment) {
                all.add(told);
            }
        }
        for (int[] row : rows) {
            all.add(row == null ? -1 : row.length);
            for (int i = 0; row != null && i < row.length; i++) {
                all.add(row[i]);
            }
        }
        for (byte[] text : texts) {
            all.add(text == null ? -1 : text.length);
            for (int i = 0; text != null && i < text.length; i++) {
                all.add((int) text[i]);
            }
        }
        BigInteger h = BigInteger.valueOf(17);
        for (int v : all) {
            h = h.multiply(BigInteger.valueOf(31)).add(BigInteger.valueOf(v));
        }
        return h.longValue();
    }
}
