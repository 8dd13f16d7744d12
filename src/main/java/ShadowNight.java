import java.util.Arrays;

/** A night of shadow play, by the numbered promises of DOC.md. */
public final class ShadowNight {
    public static final int BAD = -1, FULL = -2, FINDING = -3, STATE = -4, SPENT = -6, NONE = -9;

    private static final int NOTHING = 1, BEYOND = 2, UNLIKE = 3, NOUGHT = 4, SIZE = 5;
    private static final int ROWS = 6, ROW_MOST = 40, TEXTS = 4, TEXT_MOST = 60;
    private static final int HIDES = 8, CELLS = 16, SIZE_MOST = 60, OFF_MOST = 99, SHADOW_MOST = 9999;
    private static final int SCENES = 12, MARKS = 4, TIME_MOST = 999, LAUGHTER_MOST = 99;
    private static final int SIGNS = 8, KNOCKS = 8, OFTEN_MOST = 99;
    private static final int MOMENTS = 40, SECOND_MOST = 32000, SPOTS = 10, VOICES = 10;
    private static final int NOTE = 0, HELD = 1, STUCK = 2, WALKED = 3, FOUGHT = 4, KNOCKED = 5, SPOKEN = 6;
    private static final int KINDS = 7;
    private static final int BLANK = 32, BANG = 33, DASH = 45, SLASH = 47;
    /** What a check answers that does not refuse; all that is refused is below 0. */
    private static final int OPEN = 0;

    private final Strip[] rows = new Strip[ROWS];
    private final Strip[] texts = new Strip[TEXTS];
    private final Stage stage = new Stage();
    private final Story story = new Story();
    private final Night night = new Night();
    private final Hands hands = new Hands();
    private final Trunk trunk = new Trunk();
    private final Signs signs = new Signs();
    private final Chronicle chronicle = new Chronicle();
    private final int[] findings = new int[SIZE + 1];
    private int finding = 0;
    private int asked = 0;
    private long upper = 0;
    private long lower = 1;

    public ShadowNight() {
        for (int i = 0; i < rows.length; i++) {
            rows[i] = new Strip();
        }
        for (int i = 0; i < texts.length; i++) {
            texts[i] = new Strip();
        }
    }

    // ---- 1 rows, texts, hides, shadows

    public int row(int r, int n) {
        if (isNone(r, ROWS) || n > ROW_MOST) {
            return BAD;
        }
        return makeStrip(rows[r], n, 0);
    }

    public int lay(int r, int i, int v) {
        int refused = refusesPlace(rows, r, i);
        if (refused != OPEN) {
            return refused;
        }
        int was = rows[r].get(i);
        rows[r].set(i, v);
        return tell(was);
    }

    public int at(int r, int i) {
        int refused = refusesPlace(rows, r, i);
        return refused != OPEN ? refused : tell(rows[r].get(i));
    }

    public int tear(int r) {
        int refused = refusesStrip(rows, r);
        if (refused != OPEN) {
            return refused;
        }
        rows[r].remove();
        return 1;
    }

    public int copy(int r, int i, int to, int j, int n) {
        if (isNone(r, ROWS) || isNone(to, ROWS)) {
            return BAD;
        }
        if (n < 0) {
            return find(SIZE);
        }
        if (!rows[r].isThere() || !rows[to].isThere()) {
            return find(NOTHING);
        }
        if (!rows[r].hasRun(i, n) || !rows[to].hasRun(j, n)) {
            return find(BEYOND);
        }
        System.arraycopy(rows[r].places, i, rows[to].places, j, n);
        return 1;
    }

    public int mean(int r) {
        int refused = refusesStrip(rows, r);
        if (refused != OPEN) {
            return refused;
        }
        int n = rows[r].size;
        if (n <= 0) {
            return find(NOUGHT);
        }
        return tell((int) (rows[r].sum() / n));
    }

    public int text(int t, int n) {
        if (isNone(t, TEXTS) || n > TEXT_MOST) {
            return BAD;
        }
        return makeStrip(texts[t], n, BLANK);
    }

    public int put(int t, int i, int v) {
        int refused = refusesPlace(texts, t, i);
        if (refused != OPEN) {
            return refused;
        }
        int was = texts[t].get(i);
        texts[t].set(i, (byte) v);
        return was + 1000;
    }

    public int hide(int k, int width, int height, int outline) {
        boolean sized = isWithin(width, 1, SIZE_MOST) && isWithin(height, 1, SIZE_MOST);
        if (isNone(k, HIDES) || !sized || !isWithin(outline, 1, (1 << CELLS) - 1)) {
            return BAD;
        }
        stage.hides[k].make(width, height, outline);
        return Integer.bitCount(outline);
    }

    public int drop(int k) {
        int refused = refusesHide(k);
        if (refused != OPEN) {
            return refused;
        }
        stage.hides[k].there = false;
        return 1;
    }

    public int lamp(int d, int g) {
        if (!isWithin(d, 2, 60) || !isWithin(g, 0, 9)) {
            return BAD;
        }
        stage.distance = d;
        stage.greatness = g;
        return 1;
    }

    public int about(int k, int what) {
        if (isNone(what, 4)) {
            return BAD;
        }
        int refused = refusesHide(k);
        return refused != OPEN ? refused : tell(stage.hides[k].tells(what));
    }

    public int shadow(int k, int z, int x, int what) {
        if (!stage.canHold(z, x) || isNone(what, 4)) {
            return BAD;
        }
        int refused = refusesHide(k);
        if (refused != OPEN) {
            return refused;
        }
        tellFraction(stage.shadowUpper(stage.hides[k], z, x, what), stage.distance - z);
        return 1;
    }

    public int covers(int k, int z, int x, int other, int w, int y) {
        if (!stage.canHold(z, x) || !stage.canHold(w, y)) {
            return BAD;
        }
        int refused = refusesHides(k, other);
        if (refused != OPEN) {
            return refused;
        }
        int width = stage.hides[k].width;
        int otherWidth = stage.hides[other].width;
        // both sides of each comparison are doubled, so that half widths stay whole
        int far = stage.distance - w;
        int otherFar = stage.distance - z;
        boolean left = (2 * x - width) * far <= (2 * y - otherWidth) * otherFar;
        boolean right = (2 * x + width) * far >= (2 * y + otherWidth) * otherFar;
        return left && right ? 1 : 0;
    }

    public int place(int k, int s) {
        if (!isWithin(s, 1, SHADOW_MOST)) {
            return BAD;
        }
        int refused = refusesHide(k);
        if (refused != OPEN) {
            return refused;
        }
        int more = s - stage.hides[k].width;
        if (more < 0) {
            return NONE;
        }
        tellFraction((long) stage.distance * more, s);
        return lower == 1 ? 1 : 0;
    }

    // ---- 2 stories, hands, the trunk

    public int fault(int t) {
        int refused = refusesStrip(texts, t);
        return refused != OPEN ? refused : story.read(texts[t]);
    }

    public int story(int t) {
        int refused = refusesStrip(texts, t);
        if (refused != OPEN) {
            return refused;
        }
        if (story.read(texts[t]) != NONE) {
            return STATE;
        }
        story.takeDraft();
        return story.size;
    }

    public int scene(int s, int what) {
        if (!story.has(s) || isNone(what, 5)) {
            return BAD;
        }
        return tell(story.scenes[s].tells(what));
    }

    public int hands() {
        return hands.fewest(story);
    }

    public int third() {
        for (int s = 0; s < story.size; s++) {
            if (Integer.bitCount(story.scenes[s].shown) > 2) {
                return s;
            }
        }
        return NONE;
    }

    public int takings() {
        trunk.gather(story);
        tell(trunk.last());
        return trunk.taken;
    }

    public int reaching(int r) {
        int refused = refusesStrip(rows, r);
        if (refused != OPEN) {
            return refused;
        }
        int named = story.named();
        if (rows[r].size != Integer.bitCount(named)) {
            return find(SIZE);
        }
        if (!trunk.putInOrder(rows[r], named)) {
            return find(UNLIKE);
        }
        trunk.gather(story);
        return trunk.reach();
    }

    public int trunk(int r) {
        if (isNone(r, ROWS)) {
            return BAD;
        }
        trunk.gather(story);
        return trunk.leastReach(story.named(), rows[r]);
    }

    // ---- 3 the night

    public int markScene(int s, int a, int b) {
        if (!story.has(s) || a > b || !isWithin(a, 0, TIME_MOST) || !isWithin(b, 0, TIME_MOST)) {
            return BAD;
        }
        if (!story.scenes[s].isMarked() && story.marked() >= MARKS) {
            return FULL;
        }
        story.scenes[s].from = a;
        story.scenes[s].to = b;
        return story.marked();
    }

    public int need(int s, int k) {
        if (!story.has(s) || isNone(k, HIDES) || (story.scenes[s].shown >> k & 1) == 0) {
            return BAD;
        }
        story.scenes[s].needs |= 1 << k;
        return 1;
    }

    public int good(int cut) {
        if (!story.hasAll(cut)) {
            return BAD;
        }
        return night.isGood(story, cut, NONE, 0) ? 1 : 0;
    }

    public int best() {
        int cut = night.leastCut(story);
        if (cut != NONE) {
            tell(night.leastLength);
        }
        return cut;
    }

    public int begins(int cut, int s) {
        if (!story.hasAll(cut) || !story.has(s)) {
            return BAD;
        }
        if (!night.canBegin(story, cut, s)) {
            return NONE;
        }
        tell(night.latest);
        return night.earliest;
    }

    public int laughter(int cut, int s) {
        if (!story.hasAll(cut) || !story.has(s) || (cut >> s & 1) != 0) {
            return BAD;
        }
        for (int l = LAUGHTER_MOST; l >= 0; l--) {
            if (night.isGood(story, cut, s, l)) {
                return l;
            }
        }
        return NONE;
    }

    public int tale(int wish) {
        if (isNone(wish, 1 << HIDES)) {
            return BAD;
        }
        int scenes = night.fewestThatShow(story, wish);
        if (scenes != NONE) {
            tell(night.leastLength);
        }
        return scenes;
    }

    // ---- 4 knocks, outlines, moments

    public int knock(int sign, int r) {
        if (isNone(sign, SIGNS)) {
            return BAD;
        }
        if (r == NONE) {
            signs.sizes[sign] = 0;
            return 0;
        }
        int refused = refusesStrip(rows, r);
        if (refused != OPEN) {
            return refused;
        }
        if (!isWithin(rows[r].size, 1, KNOCKS)) {
            return find(SIZE);
        }
        if (!rows[r].isAllWithin(0, 1)) {
            return find(UNLIKE);
        }
        signs.learn(sign, rows[r]);
        return rows[r].size;
    }

    public int clear() {
        return signs.firstBeginning();
    }

    public int sure() {
        return signs.areSure() ? 1 : 0;
    }

    public int shortest(int r) {
        int refused = refusesStrip(rows, r);
        if (refused != OPEN) {
            return refused;
        }
        if (!isWithin(rows[r].size, 1, SIGNS)) {
            return find(SIZE);
        }
        if (!rows[r].isAllWithin(1, OFTEN_MOST)) {
            return find(UNLIKE);
        }
        return signs.leastKnocks(rows[r]);
    }

    public int apart(int k, int other) {
        int refused = refusesHides(k, other);
        if (refused != OPEN) {
            return refused;
        }
        return Hide.between(stage.hides[k].outline, stage.hides[other].outline);
    }

    public int leastApart() {
        int least = stage.findNearest();
        if (least != NONE) {
            tell(stage.nearestPair);
        }
        return least;
    }

    public int matters(int k) {
        int refused = refusesHide(k);
        return refused != OPEN ? refused : stage.idleCells(k);
    }

    public int moment(int second, int kind, int k, int v, int w) {
        if (!isWithin(second, 0, SECOND_MOST) || isNone(kind, KINDS) || !Moment.fits(kind, k, v, w)) {
            return BAD;
        }
        if (chronicle.size >= MOMENTS) {
            return FULL;
        }
        boolean missing = Moment.hasHide(kind) && !stage.hasHide(k);
        if (missing || kind == FOUGHT && !stage.hasHide(w)) {
            return find(NOTHING);
        }
        return chronicle.add(second, kind, k, v, w);
    }

    public int told(int m, int what) {
        if (!chronicle.has(m) || isNone(what, 5)) {
            return BAD;
        }
        return tell(chronicle.moments[m].tells(what));
    }

    public int mark(int m, int kind) {
        if (!chronicle.has(m) || !isWithin(kind, HELD, SPOKEN)) {
            return BAD;
        }
        Moment one = chronicle.moments[m];
        if (!one.isOf(kind)) {
            return find(UNLIKE);
        }
        if (kind == KNOCKED) {
            return signs.sizeOf(one.v);
        }
        return kind == WALKED || kind == FOUGHT ? one.w : one.v;
    }

    public int seen(int n, boolean behind) {
        if (!isWithin(n, 0, CELLS)) {
            return BAD;
        }
        int all = 0;
        for (int m = 0; m < chronicle.size; m++) {
            Moment one = chronicle.moments[m];
            if (stage.hasHide(one.hide) && (behind || one.kind != SPOKEN && stage.standsOut(one.hide, n))) {
                all++;
            }
        }
        return all;
    }

    public int broken(int k, int from, int time) {
        if (isNone(k, HIDES) || !isWithin(from, 0, SECOND_MOST) || !isWithin(time, 0, SECOND_MOST)) {
            return BAD;
        }
        int all = 0;
        int first = NONE;
        for (int m = 0; m < chronicle.size; m++) {
            Moment one = chronicle.moments[m];
            if (one.wantsHeld(k) && one.second >= from && one.second < from + time) {
                first = all == 0 ? m : first;
                all++;
            }
        }
        tell(first);
        return all;
    }

    public int mistaken() {
        int all = 0;
        int first = NONE;
        for (int m = 0; m < chronicle.size; m++) {
            if (chronicle.isMistaken(m)) {
                first = first == NONE || chronicle.isEarlier(m, first) ? m : first;
                all++;
            }
        }
        tell(first);
        return all;
    }

    // ---- 5 what is told

    public int asked() {
        return asked;
    }

    public long upper() {
        return upper;
    }

    public long lower() {
        return lower;
    }

    public int count(int what) {
        switch (what) {
            case 0:
                return thereAmong(rows);
            case 1:
                return thereAmong(texts);
            case 2:
                return stage.hidesThere();
            case 3:
                return story.size;
            case 4:
                return signs.withKnocks();
            case 5:
                return chronicle.size;
            case 6:
                return chronicle.heldOnes();
            default:
                return BAD;
        }
    }

    public int finding() {
        return finding;
    }

    public int findings(int f) {
        return isWithin(f, NOTHING, SIZE) ? findings[f] : BAD;
    }

    public long digest() {
        long h = 17;
        for (int what = 0; what <= 6; what++) {
            h = 31 * h + count(what);
        }
        h = stage.addTo(h);
        h = story.addTo(h);
        h = signs.addTo(h);
        h = chronicle.addTo(h);
        for (int r = 0; r < rows.length; r++) {
            h = rows[r].addTo(h);
        }
        for (int t = 0; t < texts.length; t++) {
            h = texts[t].addTo(h);
        }
        return h;
    }

    // ---- what the calls share

    private static boolean isNone(int i, int n) {
        return i < 0 || i >= n;
    }

    private static boolean isWithin(int v, int least, int most) {
        return v >= least && v <= most;
    }

    private int find(int f) {
        if (isWithin(f, NOTHING, SIZE)) {
            finding = f;
            findings[f]++;
        }
        return FINDING;
    }

    private int tell(int v) {
        asked = v;
        return 1;
    }

    private void tellFraction(long above, long below) {
        long shared = greatestShared(Math.abs(above), below);
        if (shared > 0) {
            upper = above / shared;
            lower = below / shared;
        }
    }

    private static long greatestShared(long a, long b) {
        long great = a;
        long small = b;
        // the smaller number halves every two steps, so a long never needs more than these
        for (int step = 0; step < 200 && small != 0; step++) {
            long rest = great % small;
            great = small;
            small = rest;
        }
        return great;
    }

    private int makeStrip(Strip strip, int n, int v) {
        if (n < 0) {
            return find(SIZE);
        }
        strip.make(n, v);
        return n;
    }

    private int refusesStrip(Strip[] strips, int i) {
        if (isNone(i, strips.length)) {
            return BAD;
        }
        return strips[i].isThere() ? OPEN : find(NOTHING);
    }

    private int refusesPlace(Strip[] strips, int r, int i) {
        int refused = refusesStrip(strips, r);
        if (refused != OPEN) {
            return refused;
        }
        return strips[r].has(i) ? OPEN : find(BEYOND);
    }

    private int refusesHide(int k) {
        return refusesHides(k, k);
    }

    private int refusesHides(int k, int other) {
        if (isNone(k, HIDES) || isNone(other, HIDES)) {
            return BAD;
        }
        return stage.hasHide(k) && stage.hasHide(other) ? OPEN : find(NOTHING);
    }

    private static int thereAmong(Strip[] strips) {
        int all = 0;
        for (int i = 0; i < strips.length; i++) {
            if (strips[i].isThere()) {
                all++;
            }
        }
        return all;
    }

    /** A ROW or a TEXT. Both are of one kind inside: a TEXT's bytes are kept as ints already cut. */
    private static final class Strip {
        final int[] places = new int[TEXT_MOST];
        int size = -1; // -1: missing, as digest() tells it

        boolean isThere() {
            return size >= 0;
        }

        void make(int n, int v) {
            if (n < 0 || n > places.length) {
                return;
            }
            Arrays.fill(places, 0, n, v);
            size = n;
        }

        void remove() {
            size = -1;
        }

        boolean has(int i) {
            return i >= 0 && i < size;
        }

        boolean hasRun(int i, int n) {
            // size less n can't wrap around, i and n together could
            return i >= 0 && n >= 0 && i <= size - n;
        }

        int get(int i) {
            return has(i) ? places[i] : 0;
        }

        void set(int i, int v) {
            if (has(i)) {
                places[i] = v;
            }
        }

        long sum() {
            long sum = 0;
            for (int i = 0; i < size; i++) {
                sum += places[i];
            }
            return sum;
        }

        boolean isAllWithin(int least, int most) {
            for (int i = 0; i < size; i++) {
                if (!isWithin(places[i], least, most)) {
                    return false;
                }
            }
            return true;
        }

        long addTo(long before) {
            long h = 31 * before + size;
            for (int i = 0; i < size; i++) {
                h = 31 * h + places[i];
            }
            return h;
        }
    }

    private static final class Hide {
        boolean there = false;
        int width = 0;
        int height = 0;
        int outline = 0;

        void make(int newWidth, int newHeight, int newOutline) {
            there = true;
            width = newWidth;
            height = newHeight;
            outline = newOutline;
        }

        int tells(int what) {
            switch (what) {
                case 0:
                    return width;
                case 1:
                    return height;
                case 2:
                    return outline;
                default:
                    return turned(outline);
            }
        }

        static int turned(int cells) {
            int neighbours = (cells & 0x5555) << 1 | cells >> 1 & 0x5555;
            return (neighbours & 0x3333) << 2 | neighbours >> 2 & 0x3333;
        }

        static int between(int cells, int others) {
            return Math.min(Integer.bitCount(cells ^ others), Integer.bitCount(turned(cells) ^ others));
        }
    }

    /** THE HIDES before THE LAMP. */
    private static final class Stage {
        /** Further than any two outlines can be APART. */
        private static final int FAR = CELLS + 1;

        final Hide[] hides = new Hide[HIDES];
        int distance = 30;
        int greatness = 2;
        int nearestPair = NONE;

        Stage() {
            for (int k = 0; k < hides.length; k++) {
                hides[k] = new Hide();
            }
        }

        boolean hasHide(int k) {
            return k >= 0 && k < hides.length && hides[k].there;
        }

        int hidesThere() {
            int all = 0;
            for (int k = 0; k < hides.length; k++) {
                if (hides[k].there) {
                    all++;
                }
            }
            return all;
        }

        boolean canHold(int z, int x) {
            return z >= 0 && z < distance && isWithin(x, -OFF_MOST, OFF_MOST);
        }

        long shadowUpper(Hide one, int z, int x, int what) {
            switch (what) {
                case 0:
                    return (long) one.width * distance;
                case 1:
                    return (long) one.height * distance;
                case 2:
                    return (long) x * distance;
                default:
                    return (long) greatness * z;
            }
        }

        int findNearest() {
            int least = NONE;
            for (int k = 0; k < hides.length; k++) {
                for (int other = k + 1; other < hides.length; other++) {
                    if (hides[k].there && hides[other].there) {
                        int between = Hide.between(hides[k].outline, hides[other].outline);
                        if (least == NONE || between < least) {
                            least = between;
                            nearestPair = 10 * k + other;
                        }
                    }
                }
            }
            return least;
        }

        /** How far HIDE k, if it had these cells, would be APART from the nearest other one. */
        int fromNearest(int k, int cells) {
            int least = FAR;
            for (int other = 0; other < hides.length; other++) {
                if (other != k && hides[other].there) {
                    least = Math.min(least, Hide.between(cells, hides[other].outline));
                }
            }
            return least;
        }

        boolean standsOut(int k, int n) {
            return hasHide(k) && fromNearest(k, hides[k].outline) > n;
        }

        int idleCells(int k) {
            if (!hasHide(k)) {
                return 0;
            }
            int least = findNearest();
            int idle = 0;
            for (int cell = 0; cell < CELLS; cell++) {
                int bit = 1 << cell;
                int without = hides[k].outline & ~bit;
                // pairs without HIDE k stay as they are, so none of them can come below the least
                boolean has = without != hides[k].outline;
                if (has && without != 0 && fromNearest(k, without) >= least) {
                    idle |= bit;
                }
            }
            return idle;
        }

        long addTo(long before) {
            long h = before;
            for (int k = 0; k < hides.length; k++) {
                if (!hides[k].there) {
                    h = 31 * h - 1;
                    continue;
                }
                for (int what = 0; what < 3; what++) {
                    h = 31 * h + hides[k].tells(what);
                }
            }
            return 31 * (31 * h + distance) + greatness;
        }
    }

    private static final class Scene {
        int shown = 0;
        int held = 0;
        int least = 0;
        int most = 0;
        boolean firm = false;
        int from = NONE; // NONE, both: without a MARK, as digest() tells it
        int to = NONE;
        int needs = 0;

        void empty() {
            shown = 0;
            held = 0;
            least = 0;
            most = 0;
            firm = false;
            from = NONE;
            to = NONE;
            needs = 0;
        }

        boolean isMarked() {
            return from != NONE;
        }

        boolean canBeCut() {
            return !firm && !isMarked();
        }

        int tells(int what) {
            switch (what) {
                case 0:
                    return shown;
                case 1:
                    return held;
                case 2:
                    return least;
                case 3:
                    return most;
                default:
                    return firm ? 1 : 0;
            }
        }

        long addTo(long before) {
            long h = before;
            for (int what = 0; what < 5; what++) {
                h = 31 * h + tells(what);
            }
            return 31 * (31 * (31 * h + from) + to) + needs;
        }
    }

    /** THE STORY, and the reading of a TEXT into a draft that only a TEXT without FAULT makes THE STORY. */
    private static final class Story {
        private static final int END = -999;

        Scene[] scenes = new Scene[SCENES];
        int size = 0;
        private Scene[] draft = new Scene[SCENES];
        private int draftSize = 0;
        private int spot = 0;

        Story() {
            for (int s = 0; s < SCENES; s++) {
                scenes[s] = new Scene();
                draft[s] = new Scene();
            }
        }

        boolean has(int s) {
            return s >= 0 && s < size;
        }

        boolean hasAll(int set) {
            return set >= 0 && set < 1 << size;
        }

        int named() {
            int all = 0;
            for (int s = 0; s < size; s++) {
                all |= scenes[s].shown;
            }
            return all;
        }

        int marked() {
            int all = 0;
            for (int s = 0; s < size; s++) {
                if (scenes[s].isMarked()) {
                    all++;
                }
            }
            return all;
        }

        void takeDraft() {
            Scene[] old = scenes;
            scenes = draft;
            draft = old;
            size = draftSize;
        }

        /** The FAULT of a TEXT; NONE: the draft holds its scenes. */
        int read(Strip from) {
            spot = 0;
            draftSize = 0;
            skipBlanks(from);
            boolean more = true;
            for (int s = 0; s < SCENES && more; s++) {
                if (!readScene(from, draft[s])) {
                    return spot;
                }
                draftSize = s + 1;
                // the slash ahead of a thirteenth scene is left standing, as the place of the FAULT
                more = draftSize < SCENES && sign(from) == SLASH;
                if (more) {
                    spot++;
                }
            }
            skipBlanks(from);
            return spot < from.size ? spot : NONE;
        }

        private int sign(Strip from) {
            return from.has(spot) ? from.get(spot) : END;
        }

        private void skipBlanks(Strip from) {
            for (int i = 0; i < TEXT_MOST && sign(from) == BLANK; i++) {
                spot++;
            }
        }

        private boolean readScene(Strip from, Scene one) {
            one.empty();
            if (!readHides(from, one)) {
                return false;
            }
            one.least = readLength(from);
            one.most = one.least;
            if (one.least == 0) {
                return false;
            }
            if (sign(from) == DASH) {
                spot++;
                one.most = readLength(from);
                if (one.most < one.least) {
                    return false;
                }
            }
            if (sign(from) == BANG) {
                spot++;
                one.firm = true;
            }
            return true;
        }

        private boolean readHides(Strip from, Scene one) {
            for (int i = 0; i < TEXT_MOST; i++) {
                int sign = sign(from);
                boolean capital = isWithin(sign, 'A', 'H');
                if (!capital && !isWithin(sign, 'a', 'h')) {
                    return true;
                }
                int bit = 1 << (capital ? sign - 'A' : sign - 'a');
                if ((one.shown & bit) != 0 || capital && Integer.bitCount(one.held) >= 2) {
                    return false;
                }
                one.shown |= bit;
                one.held |= capital ? bit : 0;
                spot++;
            }
            return true;
        }

        /** One or two figures; 0 if there is none, so that a missing length fails as a length 0 does. */
        private int readLength(Strip from) {
            int length = 0;
            for (int i = 0; i < 2 && isWithin(sign(from), '0', '9'); i++) {
                length = 10 * length + sign(from) - '0';
                spot++;
            }
            return length;
        }

        long addTo(long before) {
            long h = before;
            for (int s = 0; s < size; s++) {
                h = scenes[s].addTo(h);
            }
            return h;
        }
    }

    /** The hours of a night: from when to when the scene that comes next can begin. */
    private static final class Night {
        /** More than the lengths of all scenes together. */
        private static final int ENDLESS = 1000000;

        int earliest = 0;
        int latest = 0;
        int leastLength = 0;
        private int best = NONE;
        private int fewest = 0;

        private void open() {
            earliest = 0;
            latest = 0;
        }

        /** Keeps the beginnings that a scene's MARK allows; whether one is left. */
        private boolean meets(Scene one) {
            if (one.isMarked()) {
                earliest = Math.max(earliest, one.from);
                latest = Math.min(latest, one.to);
            }
            return earliest <= latest;
        }

        private void pass(int least, int most) {
            earliest += least;
            latest += most;
        }

        /** Whether a scene can stay behind scenes that showed these HIDES. */
        private boolean canStay(Scene one, int shown) {
            return (one.needs & ~shown) == 0 && meets(one);
        }

        /** GOOD, with laughter of some length in a scene (NONE: in none). */
        boolean isGood(Story story, int cut, int laughing, int laughter) {
            open();
            int shown = 0;
            for (int s = 0; s < story.size; s++) {
                Scene one = story.scenes[s];
                boolean isCut = (cut >> s & 1) != 0;
                if (isCut ? !one.canBeCut() : !canStay(one, shown)) {
                    return false;
                }
                if (!isCut) {
                    int most = s == laughing ? one.least : one.most;
                    int more = s == laughing ? laughter : 0;
                    pass(one.least + more, most + more);
                    shown |= one.shown;
                }
            }
            return true;
        }

        /** BEST; leastLength is then what it cuts. */
        int leastCut(Story story) {
            open();
            best = NONE;
            leastLength = ENDLESS;
            cutFrom(this, story, 0, 0, 0, 0);
            return best;
        }

        /** Tries scene s both ways, to stay and to be cut; the levels are as many as THE STORY has scenes. */
        private static void cutFrom(Night night, Story story, int s, int cut, int length, int shown) {
            if (length > night.leastLength) {
                return;
            }
            if (!story.has(s)) {
                night.best = length < night.leastLength ? cut : Math.min(cut, night.best);
                night.leastLength = length;
                return;
            }
            Scene one = story.scenes[s];
            int early = night.earliest;
            int late = night.latest;
            if (night.canStay(one, shown)) {
                night.pass(one.least, one.most);
                cutFrom(night, story, s + 1, cut, length, shown | one.shown);
            }
            night.earliest = early;
            night.latest = late;
            if (one.canBeCut()) {
                cutFrom(night, story, s + 1, cut | 1 << s, length + one.least, shown);
            }
        }

        boolean canBegin(Story story, int cut, int wanted) {
            if (!story.has(wanted) || (cut >> wanted & 1) != 0) {
                return false;
            }
            open();
            for (int s = 0; s < wanted; s++) {
                Scene one = story.scenes[s];
                if ((cut >> s & 1) == 0) {
                    if (!meets(one)) {
                        return false;
                    }
                    pass(one.least, one.most);
                }
            }
            return meets(story.scenes[wanted]);
        }

        /** A TALE; leastLength is then how long it is. */
        int fewestThatShow(Story story, int wish) {
            best = NONE;
            fewest = SCENES + 1;
            leastLength = ENDLESS;
            showFrom(this, story, 0, 0, 0, wish);
            return best;
        }

        /** Tries scene s both ways, in and out; one that shows nothing missing is in none of the fewest. */
        private static void showFrom(Night night, Story story, int s, int set, int length, int missing) {
            if (Integer.bitCount(set) > night.fewest) {
                return;
            }
            if (missing == 0) {
                night.keepBetter(set, length);
                return;
            }
            if (!story.has(s)) {
                return;
            }
            Scene one = story.scenes[s];
            if ((one.shown & missing) != 0) {
                showFrom(night, story, s + 1, set | 1 << s, length + one.least, missing & ~one.shown);
            }
            showFrom(night, story, s + 1, set, length, missing);
        }

        private void keepBetter(int set, int length) {
            int many = Integer.bitCount(set);
            boolean shorter = length < leastLength || length == leastLength && set < best;
            if (many < fewest || many == fewest && shorter) {
                best = set;
                fewest = many;
                leastLength = length;
            }
        }
    }

    /**
     * FEWEST, by the least cost of every state of the HIDES. Left and right are one thing here: a HIDE that stays
     * in a hand keeps it and another one takes what is free, so no HIDE ever has to go from hand to hand.
     */
    private static final class Hands {
        private static final int MANAGED = 6;
        private static final int STATES = 729;
        private static final int NEVER = 1000000;

        /** By a state (a figure in threes for each HIDE: 0 trunk, 1 stuck, 2 hand): held, and out of the trunk. */
        private final int[] masks = new int[STATES];
        private final int[] costs = new int[STATES];

        Hands() {
            for (int state = 0; state < STATES; state++) {
                int rest = state;
                int out = 0;
                int held = 0;
                for (int h = 0; h < MANAGED; h++) {
                    out |= rest % 3 > 0 ? 1 << h : 0;
                    held |= rest % 3 > 1 ? 1 << h : 0;
                    rest /= 3;
                }
                masks[state] = held << MANAGED | out;
            }
        }

        int fewest(Story story) {
            int named = story.named();
            int many = Integer.bitCount(named);
            if (many > MANAGED) {
                return SPENT;
            }
            int states = 1;
            for (int h = 0; h < many; h++) {
                states *= 3;
            }
            Arrays.fill(costs, NEVER);
            costs[0] = 0;
            for (int s = 0; s < story.size; s++) {
                Scene one = story.scenes[s];
                change(states);
                keepFitting(states, packed(one.held, named) << MANAGED | packed(one.shown, named));
            }
            change(states);
            return costs[0];
        }

        /** The bits of a set that are named, moved together. */
        private static int packed(int set, int named) {
            int bits = 0;
            int next = 0;
            for (int k = 0; k < HIDES; k++) {
                if ((named >> k & 1) != 0) {
                    bits |= (set >> k & 1) << next;
                    next++;
                }
            }
            return bits;
        }

        /** Each HIDE by itself may change: the costs of several HIDES only add up. */
        private void change(int states) {
            for (int step = 1; step < states; step *= 3) {
                for (int high = 0; high < states; high += 3 * step) {
                    for (int low = 0; low < step; low++) {
                        changeOne(high + low, step);
                    }
                }
            }
        }

        private void changeOne(int state, int step) {
            if (state < 0 || step < 0 || state + 2 * step >= STATES) {
                return;
            }
            int trunk = costs[state];
            int stuck = costs[state + step];
            int hand = costs[state + 2 * step];
            costs[state] = Math.min(trunk, Math.min(hand + 1, stuck + 2));
            costs[state + step] = Math.min(stuck, Math.min(hand + 1, trunk + 2));
            costs[state + 2 * step] = Math.min(hand, Math.min(trunk, stuck) + 1);
        }

        private void keepFitting(int states, int wanted) {
            for (int state = 0; state < states && state < STATES; state++) {
                boolean fits = (wanted & ~masks[state]) == 0;
                if (!fits || Integer.bitCount(masks[state] >> MANAGED) > 2) {
                    costs[state] = NEVER;
                }
            }
        }
    }

    private static final class Trunk {
        private static final int SETS = 1 << HIDES;

        private final int[] takenHides = new int[SCENES * HIDES];
        int taken = 0;
        private final int[] placeOf = new int[HIDES];
        /** By the set of HIDES in the first places: the least reaching over the edge behind it and all later ones. */
        private final int[] reachBehind = new int[SETS];

        void gather(Story story) {
            taken = 0;
            int ahead = 0;
            for (int s = 0; s < story.size; s++) {
                int shown = story.scenes[s].shown;
                for (int k = 0; k < HIDES; k++) {
                    if ((shown & ~ahead & 1 << k) != 0 && taken < takenHides.length) {
                        takenHides[taken] = k;
                        taken++;
                    }
                }
                ahead = shown;
            }
        }

        int last() {
            return taken > 0 ? takenHides[taken - 1] : NONE;
        }

        /** Whether an order names each of the HIDES once; then it is the order that reach() takes. */
        boolean putInOrder(Strip order, int named) {
            int left = named;
            for (int i = 0; i < order.size; i++) {
                int k = order.get(i);
                if (isNone(k, HIDES) || (left >> k & 1) == 0) {
                    return false;
                }
                left &= ~(1 << k);
                placeOf[k] = i;
            }
            return left == 0;
        }

        int reach() {
            int sum = 0;
            int before = 0;
            for (int i = 0; i < taken; i++) {
                int now = placeOf[takenHides[i]];
                sum += Math.abs(now - before);
                before = now;
            }
            return sum;
        }

        /**
         * Reaching is counted edge by edge between places: an edge is passed as often as TAKINGS change its side,
         * which depends only on which HIDES lie ahead of it.
         */
        int leastReach(int named, Strip order) {
            for (int set = named; set > 0; set--) {
                if ((set & ~named) == 0) {
                    reachBehind[set] = passedOver(set) + leastFrom(set, named);
                }
            }
            order.make(Integer.bitCount(named), 0);
            int set = 0;
            for (int i = 0; i < order.size; i++) {
                int k = firstLeast(set, named, leastFrom(set, named));
                order.set(i, k);
                set |= 1 << k;
            }
            return leastFrom(0, named);
        }

        private int passedOver(int set) {
            int times = 0;
            int inside = 1; // the first reach is from place 0, which lies ahead of every edge
            for (int i = 0; i < taken; i++) {
                int now = set >> takenHides[i] & 1;
                times += inside ^ now;
                inside = now;
            }
            return times;
        }

        private int leastFrom(int set, int named) {
            int least = NONE;
            for (int k = 0; k < HIDES; k++) {
                int next = set | 1 << k;
                if ((named & ~set & 1 << k) != 0 && isReached(next) && (least == NONE || reachBehind[next] < least)) {
                    least = reachBehind[next];
                }
            }
            return least == NONE ? 0 : least;
        }

        private int firstLeast(int set, int named, int least) {
            for (int k = 0; k < HIDES; k++) {
                int next = set | 1 << k;
                if ((named & ~set & 1 << k) != 0 && isReached(next) && reachBehind[next] == least) {
                    return k;
                }
            }
            return 0;
        }

        private static boolean isReached(int set) {
            return set >= 0 && set < SETS;
        }
    }

    private static final class Signs {
        private static final int RESTS = SIGNS * KNOCKS;

        final int[] sizes = new int[SIGNS]; // 0: none
        private final int[] knocks = new int[SIGNS * KNOCKS];
        private final int[] weights = new int[SIGNS];
        /** Rests (what is left of a sign behind another one) that are still to be followed, each once. */
        private final int[] queue = new int[RESTS];
        private final boolean[] queued = new boolean[RESTS];
        private int queueSize = 0;

        int sizeOf(int sign) {
            return isNone(sign, SIGNS) ? 0 : sizes[sign];
        }

        int withKnocks() {
            int all = 0;
            for (int i = 0; i < SIGNS; i++) {
                if (sizes[i] > 0) {
                    all++;
                }
            }
            return all;
        }

        void learn(int sign, Strip row) {
            if (isNone(sign, SIGNS) || row.size > KNOCKS) {
                return;
            }
            for (int i = 0; i < row.size; i++) {
                knocks[sign * KNOCKS + i] = row.get(i);
            }
            sizes[sign] = row.size;
        }

        int firstBeginning() {
            for (int a = 0; a < SIGNS; a++) {
                for (int b = 0; b < SIGNS; b++) {
                    if (a != b && sizes[a] > 0 && sizes[a] <= sizes[b] && agree(a, 0, b)) {
                        return 10 * a + b;
                    }
                }
            }
            return NONE;
        }

        /** Whether sign a from a knock on and sign b go alike as far as both go. */
        private boolean agree(int a, int from, int b) {
            for (int i = 0; i < KNOCKS && from + i < sizes[a] && i < sizes[b]; i++) {
                if (knocks[a * KNOCKS + from + i] != knocks[b * KNOCKS + i]) {
                    return false;
                }
            }
            return true;
        }

        /**
         * Two rows of signs that sound alike leave, after each sign, a rest by which one is ahead of the other;
         * they can end together only if some rest is itself a sign.
         */
        boolean areSure() {
            emptyQueue();
            for (int a = 0; a < SIGNS; a++) {
                for (int b = a + 1; b < SIGNS; b++) {
                    if (sizes[b] > 0 && !follow(a, 0, b)) {
                        return false;
                    }
                }
            }
            for (int i = 0; i < queueSize && i < RESTS; i++) {
                int rest = queue[i];
                for (int b = 0; b < SIGNS; b++) {
                    if (sizes[b] > 0 && !follow(rest / KNOCKS, rest % KNOCKS, b)) {
                        return false;
                    }
                }
            }
            return true;
        }

        /** Lays sign b along the rest of sign a; false: they end together. */
        private boolean follow(int a, int from, int b) {
            int left = sizes[a] - from;
            if (left <= 0 || !agree(a, from, b)) {
                return true;
            }
            if (left > sizes[b]) {
                enqueue(a * KNOCKS + from + sizes[b]);
            } else if (left < sizes[b]) {
                enqueue(b * KNOCKS + left);
            }
            return left != sizes[b];
        }

        private void emptyQueue() {
            for (int i = 0; i < RESTS; i++) {
                queued[i] = false;
            }
            queueSize = 0;
        }

        private void enqueue(int rest) {
            if (!isNone(rest, RESTS) && !queued[rest] && queueSize < RESTS) {
                queued[rest] = true;
                queue[queueSize] = rest;
                queueSize++;
            }
        }

        /** SHORTEST: the two rarest are put together, again and again; each time all of them get a knock more. */
        int leastKnocks(Strip often) {
            int many = Math.min(often.size, SIGNS);
            for (int i = 0; i < many; i++) {
                weights[i] = often.get(i);
            }
            if (many == 1) {
                return weights[0];
            }
            int sum = 0;
            for (int left = many; left > 1; left--) {
                moveLeastBehind(left);
                moveLeastBehind(left - 1);
                weights[left - 2] += weights[left - 1];
                sum += weights[left - 2];
            }
            return sum;
        }

        private void moveLeastBehind(int n) {
            for (int i = 0; i + 1 < n && n <= SIGNS; i++) {
                if (weights[i] < weights[n - 1]) {
                    int other = weights[i];
                    weights[i] = weights[n - 1];
                    weights[n - 1] = other;
                }
            }
        }

        long addTo(long before) {
            long h = before;
            for (int sign = 0; sign < SIGNS; sign++) {
                h = 31 * h + (sizes[sign] == 0 ? -1 : sizes[sign]);
                for (int i = 0; i < sizes[sign] && i < KNOCKS; i++) {
                    h = 31 * h + knocks[sign * KNOCKS + i];
                }
            }
            return h;
        }
    }

    private static final class Moment {
        int kind = NOTE;
        int second = 0;
        int hide = NONE;
        int v = 0;
        int w = 0;

        static boolean hasHide(int kind) {
            return kind != NOTE && kind != KNOCKED;
        }

        /** Whether the numbers that a KIND looks at are such as it can have. */
        static boolean fits(int kind, int k, int v, int w) {
            if (hasHide(kind) && isNone(k, HIDES)) {
                return false;
            }
            switch (kind) {
                case HELD:
                    return isWithin(v, 0, 1);
                case STUCK:
                    return isWithin(v, 0, SPOTS - 1);
                case WALKED:
                    return isWithin(v, 0, 1) && isWithin(w, -OFF_MOST, OFF_MOST);
                case FOUGHT:
                    return isWithin(v, 0, 1) && !isNone(w, HIDES) && w != k;
                case KNOCKED:
                    return !isNone(v, SIGNS);
                case SPOKEN:
                    return isWithin(v, 0, VOICES - 1);
                default:
                    return true;
            }
        }

        boolean isOf(int wanted) {
            boolean heldOne = kind == HELD || kind == WALKED || kind == FOUGHT;
            return wanted == NOTE || wanted == kind || wanted == HELD && heldOne;
        }

        /** Whether HIDE k is in a hand here, its own or that of the one it fights. */
        boolean wantsHeld(int k) {
            return isOf(HELD) && (hide == k || kind == FOUGHT && w == k);
        }

        int tells(int what) {
            switch (what) {
                case 0:
                    return kind;
                case 1:
                    return second;
                case 2:
                    return hide;
                case 3:
                    return v;
                default:
                    return w;
            }
        }
    }

    private static final class Chronicle {
        final Moment[] moments = new Moment[MOMENTS];
        int size = 0;

        Chronicle() {
            for (int m = 0; m < moments.length; m++) {
                moments[m] = new Moment();
            }
        }

        boolean has(int m) {
            return m >= 0 && m < size;
        }

        int add(int second, int kind, int k, int v, int w) {
            if (size >= moments.length) {
                return FULL;
            }
            Moment one = moments[size];
            one.kind = kind;
            one.second = second;
            one.hide = Moment.hasHide(kind) ? k : NONE;
            one.v = kind == NOTE ? 0 : v;
            one.w = kind == WALKED || kind == FOUGHT ? w : 0;
            size++;
            return size - 1;
        }

        int heldOnes() {
            int all = 0;
            for (int m = 0; m < size; m++) {
                if (moments[m].isOf(HELD)) {
                    all++;
                }
            }
            return all;
        }

        boolean isEarlier(int m, int other) {
            if (!has(m) || !has(other)) {
                return false;
            }
            int second = moments[m].second;
            int otherSecond = moments[other].second;
            return second < otherSecond || second == otherSecond && m < other;
        }

        boolean isMistaken(int m) {
            if (!has(m) || moments[m].kind != SPOKEN) {
                return false;
            }
            Moment one = moments[m];
            int first = m;
            for (int e = 0; e < size; e++) {
                Moment other = moments[e];
                if (other.kind != SPOKEN || !isEarlier(e, m)) {
                    continue;
                }
                if (other.hide != one.hide && other.v == one.v) {
                    return true;
                }
                first = other.hide == one.hide && isEarlier(e, first) ? e : first;
            }
            return moments[first].v != one.v;
        }

        long addTo(long before) {
            long h = before;
            for (int m = 0; m < size; m++) {
                for (int what = 0; what < 5; what++) {
                    h = 31 * h + moments[m].tells(what);
                }
            }
            return h;
        }
    }
}
