/** Promises 39 to 44: moments. */
public final class MomentsTest {
    private static final Expect EXPECT = new Expect("MomentsTest");
    private static final int BAD = ShadowNight.BAD, NONE = ShadowNight.NONE;

    public static void main(String[] args) {
        moment();
        told();
        mark();
        seen();
        broken();
        mistaken();
        allForty();
        EXPECT.end();
    }

    private static ShadowNight withHides(int... outlines) {
        ShadowNight x = new ShadowNight();
        for (int k = 0; k < outlines.length; k++) {
            x.hide(k, 1, 1, outlines[k]);
        }
        return x;
    }

    private static void refused(int... numbers) {
        ShadowNight x = withHides(1, 2, 3, 4, 5, 6, 7, 8);
        String call = "moment " + java.util.Arrays.toString(numbers);
        EXPECT.due(call, x.moment(numbers[0], numbers[1], numbers[2], numbers[3], numbers[4]), BAD);
        EXPECT.due(call + " count(5)", x.count(5), 0);
    }

    private static void moment() {
        refused(-1, 0, 0, 0, 0);
        refused(32001, 0, 0, 0, 0);
        refused(0, -1, 0, 0, 0);
        refused(0, 7, 0, 0, 0);
        for (int kind : new int[] {1, 2, 3, 4, 6}) {
            refused(0, kind, -1, 0, 0);
            refused(0, kind, 8, 0, 0);
            refused(0, kind, 0, -1, 1);
        }
        refused(0, 1, 0, 2, 0);
        refused(0, 2, 0, 10, 0);
        refused(0, 3, 0, 2, 0);
        refused(0, 3, 0, 0, 100);
        refused(0, 3, 0, 0, -100);
        refused(0, 4, 0, 2, 1);
        refused(0, 4, 0, 0, 8);
        refused(0, 4, 0, 0, -1);
        refused(0, 4, 3, 0, 3);
        refused(0, 5, 0, 8, 0);
        refused(0, 5, 0, -1, 0);
        refused(0, 6, 0, 10, 0);
        ShadowNight x = withHides(1);
        EXPECT.finds(x, "a HIDE missing", 0, x.moment(0, 1, 1, 0, 0), 1);
        EXPECT.finds(x, "the other one missing", 1, x.moment(0, 4, 0, 0, 1), 1);
        EXPECT.finds(x, "the first one missing", 2, x.moment(0, 4, 1, 0, 0), 1);
        EXPECT.due("BAD ahead of NOTHING", x.moment(0, 1, 1, 2, 0), BAD);
        EXPECT.due("WALKED looks at no other HIDE", x.moment(0, 3, 0, 0, 7), 0);
        EXPECT.due("HELD looks at no w", x.moment(0, 1, 0, 0, 1000), 1);
        for (int m = 2; m < 40; m++) {
            EXPECT.due("moment " + m, x.moment(32000 - m, 0, -7, -7, -7), m);
        }
        EXPECT.due("a forty-first", x.moment(0, 0, 0, 0, 0), ShadowNight.FULL);
        EXPECT.due("FULL ahead of NOTHING", x.moment(0, 1, 1, 0, 0), ShadowNight.FULL);
        EXPECT.due("BAD ahead of FULL", x.moment(-1, 0, 0, 0, 0), BAD);
        EXPECT.due("count(5)", x.count(5), 40);
        EXPECT.due("count(6)", x.count(6), 2);
    }

    private static void told() {
        ShadowNight x = withHides(1, 2, 3);
        EXPECT.due("told(0, 0)", x.told(0, 0), BAD);
        int[][] given = {{0, 1, 5, 6, 7}, {1, 2, 2, 1, 7}, {2, 3, 1, 9, 7}, {3, 4, 0, 1, -99}, {4, 5, 2, 0, 1},
            {5, 6, 1, 7, 7}, {6, 32000, 1, 9, 7}};
        int[][] due = {{0, 1, NONE, 0, 0}, {1, 2, 2, 1, 0}, {2, 3, 1, 9, 0}, {3, 4, 0, 1, -99}, {4, 5, 2, 0, 1},
            {5, 6, NONE, 7, 0}, {6, 32000, 1, 9, 0}};
        for (int m = 0; m < given.length; m++) {
            int[] g = given[m];
            EXPECT.due("moment " + m, x.moment(g[1], g[0], g[2], g[3], g[4]), m);
        }
        x.drop(1);
        for (int m = 0; m < due.length; m++) {
            for (int what = 0; what < 5; what++) {
                EXPECT.asks(x, "told(" + m + ", " + what + ")", x.told(m, what), due[m][what]);
            }
        }
        EXPECT.due("what 5", x.told(0, 5), BAD);
        EXPECT.due("what -1", x.told(0, -1), BAD);
        EXPECT.due("moment 7", x.told(7, 0), BAD);
        EXPECT.due("moment -1", x.told(-1, 0), BAD);
    }

    private static void mark() {
        ShadowNight x = withHides(1, 2, 3);
        x.moment(0, 0, 0, 0, 0);
        x.moment(0, 1, 0, 1, 0);
        x.moment(0, 2, 0, 8, 0);
        x.moment(0, 3, 0, 1, -33);
        x.moment(0, 4, 0, 1, 2);
        x.moment(0, 5, 0, 6, 0);
        x.moment(0, 6, 0, 7, 0);
        Expect.lay(x, 0, 0, 1, 1);
        x.knock(6, 0);
        int u = Integer.MIN_VALUE;
        int[][] due = {{u, u, u, u, u, u}, {1, u, u, u, u, u}, {u, 8, u, u, u, u}, {1, u, -33, u, u, u},
            {1, u, u, 2, u, u}, {u, u, u, u, 3, u}, {u, u, u, u, u, 7}};
        int unlike = 0;
        for (int m = 0; m < due.length; m++) {
            for (int kind = 1; kind <= 6; kind++) {
                int want = due[m][kind - 1];
                String call = "mark(" + m + ", " + kind + ")";
                if (want == u) {
                    EXPECT.finds(x, call, unlike, x.mark(m, kind), 3);
                    unlike++;
                } else {
                    EXPECT.due(call, x.mark(m, kind), want);
                }
            }
            EXPECT.due("KIND 0", x.mark(m, 0), BAD);
            EXPECT.due("KIND 7", x.mark(m, 7), BAD);
            EXPECT.due("KIND -1", x.mark(m, -1), BAD);
        }
        x.knock(6, NONE);
        EXPECT.due("a sign without knocks", x.mark(5, 5), 0);
        EXPECT.due("moment 7", x.mark(7, 1), BAD);
        EXPECT.due("moment -1", x.mark(-1, 1), BAD);
    }

    private static void seen() {
        ShadowNight x = withHides(0x000F, 0x000E, 0xF000);
        for (int kind = 0; kind <= 6; kind++) {
            x.moment(0, kind, 0, 0, 1);
            x.moment(0, kind, 2, 0, 1);
        }
        EXPECT.due("behind", x.seen(0, true), 10);
        EXPECT.due("behind, whatever n", x.seen(16, true), 10);
        EXPECT.due("by 0", x.seen(0, false), 8);
        EXPECT.due("0 and 1 are 1 apart", x.seen(1, false), 4);
        EXPECT.due("2 is 7 apart from 1", x.seen(6, false), 4);
        EXPECT.due("not more than 7", x.seen(7, false), 0);
        x.drop(1);
        EXPECT.due("8 apart", x.seen(7, false), 8);
        EXPECT.due("not more than 8", x.seen(8, false), 0);
        x.drop(0);
        EXPECT.due("behind: those there now", x.seen(8, true), 5);
        EXPECT.due("alone", x.seen(16, false), 4);
        x.hide(0, 1, 1, 0xF000);
        EXPECT.due("alike", x.seen(0, false), 0);
        EXPECT.due("n 17", x.seen(17, false), BAD);
        EXPECT.due("n -1", x.seen(-1, true), BAD);
    }

    private static void broken() {
        ShadowNight x = withHides(1, 2, 3);
        EXPECT.due("no MOMENTS", x.broken(0, 0, 32000), 0);
        EXPECT.due("asked()", x.asked(), NONE);
        x.moment(50, 1, 1, 0, 0);
        x.moment(10, 2, 0, 0, 0);
        x.moment(20, 3, 0, 0, 0);
        x.moment(10, 1, 0, 0, 0);
        x.moment(30, 4, 1, 0, 0);
        x.moment(30, 6, 0, 0, 0);
        x.moment(30, 5, 0, 0, 0);
        x.moment(30, 0, 0, 0, 0);
        EXPECT.due("all of 0", x.broken(0, 0, 32000), 3);
        EXPECT.due("the first told", x.asked(), 2);
        EXPECT.due("from the second on", x.broken(0, 10, 1), 1);
        EXPECT.due("asked()", x.asked(), 3);
        EXPECT.due("not the end", x.broken(0, 10, 10), 1);
        EXPECT.due("just the end", x.broken(0, 10, 11), 2);
        EXPECT.due("for no time", x.broken(0, 10, 0), 0);
        EXPECT.due("asked()", x.asked(), NONE);
        EXPECT.due("FOUGHT: both", x.broken(1, 30, 20), 1);
        EXPECT.due("asked()", x.asked(), 4);
        EXPECT.due("FOUGHT: both", x.broken(0, 30, 20), 1);
        EXPECT.due("asked()", x.asked(), 4);
        EXPECT.due("WALKED to 0 is no HIDE 0", x.broken(2, 0, 32000), 0);
        x.drop(1);
        EXPECT.due("a HIDE that is missing now", x.broken(1, 32000, 32000), 0);
        EXPECT.due("a HIDE that is missing now", x.broken(1, 0, 51), 2);
        EXPECT.due("HIDE 8", x.broken(8, 0, 0), BAD);
        EXPECT.due("HIDE -1", x.broken(-1, 0, 0), BAD);
        EXPECT.due("HIDE NONE", x.broken(NONE, 0, 0), BAD);
        EXPECT.due("from -1", x.broken(0, -1, 0), BAD);
        EXPECT.due("from 32001", x.broken(0, 32001, 0), BAD);
        EXPECT.due("time -1", x.broken(0, 0, -1), BAD);
        EXPECT.due("time 32001", x.broken(0, 0, 32001), BAD);
        EXPECT.due("asked() stays", x.asked(), 0);
    }

    private static void allForty() {
        ShadowNight x = withHides(1, 2);
        for (int m = 0; m < 40; m++) {
            x.moment(m, m % 2 == 0 ? 1 : 6, 0, m % 2, 0);
        }
        EXPECT.due("behind", x.seen(0, true), 40);
        EXPECT.due("before", x.seen(0, false), 20);
        EXPECT.due("broken", x.broken(0, 0, 40), 20);
        EXPECT.due("the first", x.asked(), 0);
        EXPECT.due("the last", x.broken(0, 38, 1), 1);
        EXPECT.due("the last", x.asked(), 38);
        EXPECT.due("mistaken", x.mistaken(), 0);
        EXPECT.due("HELD ones", x.count(6), 20);
        EXPECT.asks(x, "told(39, 1)", x.told(39, 1), 39);
        EXPECT.due("told(40, 1)", x.told(40, 1), BAD);
        EXPECT.due("mark(39, 6)", x.mark(39, 6), 1);
        EXPECT.due("mark(40, 6)", x.mark(40, 6), BAD);
    }

    private static void mistaken() {
        ShadowNight x = withHides(1, 2, 3);
        EXPECT.due("none", x.mistaken(), 0);
        EXPECT.due("asked()", x.asked(), NONE);
        x.moment(50, 6, 0, 3, 0);
        x.moment(40, 6, 0, 4, 0);
        EXPECT.due("the first by seconds is right", x.mistaken(), 1);
        EXPECT.due("asked()", x.asked(), 0);
        x.moment(40, 6, 0, 3, 0);
        EXPECT.due("of alike seconds the first told", x.mistaken(), 2);
        EXPECT.due("the earliest", x.asked(), 2);
        x.moment(60, 6, 1, 4, 0);
        EXPECT.due("another HIDE's voice", x.mistaken(), 3);
        x.moment(39, 6, 2, 4, 0);
        EXPECT.due("taken ahead", x.mistaken(), 4);
        EXPECT.due("asked()", x.asked(), 1);
        x.moment(45, 1, 2, 0, 0);
        x.moment(45, 5, 2, 0, 0);
        EXPECT.due("SPOKEN ones only", x.mistaken(), 4);
        x.drop(0);
        EXPECT.due("whether HIDES are there or not", x.mistaken(), 4);
        ShadowNight z = withHides(1, 2);
        z.moment(1, 6, 0, 1, 0);
        z.moment(1, 6, 1, 2, 0);
        z.moment(1, 6, 0, 1, 0);
        EXPECT.due("each in its own voice", z.mistaken(), 0);
        EXPECT.due("asked()", z.asked(), NONE);
        ShadowNight y = withHides(1, 2);
        y.moment(1, 6, 0, 1, 0);
        y.moment(2, 6, 0, 2, 0);
        y.moment(3, 6, 1, 2, 0);
        EXPECT.due("a voice given by a mistaken one is given", y.mistaken(), 2);
        EXPECT.due("asked()", y.asked(), 1);
    }
}
