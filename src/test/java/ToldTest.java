import java.util.ArrayList;
import java.util.List;

/** Promises 45 to 51: what is told. */
public final class ToldTest {
    private static final Expect EXPECT = new Expect("ToldTest");
    private static final int BAD = ShadowNight.BAD, NONE = ShadowNight.NONE;

    public static void main(String[] args) {
        asked();
        fractions();
        count();
        findings();
        digestOfNew();
        digestOfAll();
        EXPECT.end();
    }

    private static ShadowNight full() {
        ShadowNight x = new ShadowNight();
        x.hide(0, 11, 12, 13);
        x.hide(7, 21, 22, 23);
        x.lamp(17, 5);
        Expect.tell(x, "aB3/bAC5-9/c2!");
        x.markScene(1, 3, 30);
        x.need(2, 2);
        x.need(1, 0);
        Expect.lay(x, 4, 1, 0, 1);
        x.knock(2, 4);
        x.moment(5, 3, 0, 1, -7);
        x.moment(6, 0, 0, 1, -7);
        x.moment(7, 4, 0, 1, 7);
        x.moment(8, 5, 0, 1, 7);
        x.put(0, 0, 200);
        Expect.lay(x, 1, 5, -6);
        return x;
    }

    private static void asked() {
        ShadowNight x = full();
        x.at(1, 1);
        EXPECT.due("asked()", x.asked(), -6);
        int[] silent = {x.row(0, 2), x.tear(0), x.copy(1, 0, 1, 0, 1), x.text(1, 3), x.put(1, 0, 5), x.hide(3, 4, 4, 4),
            x.drop(3), x.lamp(30, 2), x.shadow(0, 0, 0, 0), x.covers(0, 0, 0, 7, 0, 0), x.place(0, 20), x.fault(0),
            x.hands(), x.third(), x.trunk(0), x.reaching(0), x.markScene(0, 0, 9), x.need(0, 0), x.good(0),
            x.laughter(0, 0), x.knock(0, NONE), x.clear(), x.sure(), x.shortest(0), x.apart(0, 7), x.matters(0),
            x.moment(0, 0, 0, 0, 0), x.mark(0, 1), x.seen(0, true), x.count(0), x.finding(), x.findings(1)};
        x.upper();
        x.lower();
        x.digest();
        EXPECT.due("asked() behind " + silent.length + " calls that tell nothing by it", x.asked(), -6);
    }

    private static void fractions() {
        ShadowNight x = full();
        EXPECT.fraction(x, "before", 1, 1, 0, 1);
        EXPECT.fraction(x, "shadow", x.shadow(0, 12, 0, 0), 1, 187, 5);
        x.about(0, 0);
        x.covers(0, 0, 0, 7, 0, 0);
        EXPECT.fraction(x, "stays", 1, 1, 187, 5);
        EXPECT.fraction(x, "place", x.place(0, 22), 0, 17, 2);
    }

    private static void count() {
        ShadowNight x = full();
        int[] due = {2, 1, 2, 3, 1, 4, 2};
        for (int what = 0; what <= 6; what++) {
            EXPECT.due("count(" + what + ")", x.count(what), due[what]);
        }
        EXPECT.due("count(7)", x.count(7), BAD);
        EXPECT.due("count(-1)", x.count(-1), BAD);
    }

    private static void findings() {
        ShadowNight x = new ShadowNight();
        x.row(0, 0);
        x.at(1, 0);
        x.at(1, 0);
        EXPECT.due("NOTHING", x.finding(), 1);
        x.at(0, 0);
        EXPECT.due("BEYOND", x.finding(), 2);
        x.moment(0, 0, 0, 0, 0);
        x.mark(0, 1);
        EXPECT.due("UNLIKE", x.finding(), 3);
        x.mean(0);
        EXPECT.due("NOUGHT", x.finding(), 4);
        x.row(0, -1);
        EXPECT.due("SIZE", x.finding(), 5);
        x.row(9, 0);
        x.row(0, 3);
        EXPECT.due("the latest one stays", x.finding(), 5);
        int[] due = {BAD, 2, 1, 1, 1, 1, BAD};
        for (int f = 0; f <= 6; f++) {
            EXPECT.due("findings(" + f + ")", x.findings(f), due[f]);
        }
        EXPECT.due("findings(-1)", x.findings(-1), BAD);
        EXPECT.due("findings(FINDING)", x.findings(ShadowNight.FINDING), BAD);
    }

    private static long digestOf(long... values) {
        long h = 17;
        for (long v : values) {
            h = 31 * h + v;
        }
        return h;
    }

    private static void digestOfNew() {
        long[] values = new long[7 + 8 + 2 + 8 + 6 + 4];
        java.util.Arrays.fill(values, 7, values.length, -1);
        values[15] = 30;
        values[16] = 2;
        EXPECT.due("digest() of a new object", new ShadowNight().digest(), digestOf(values));
    }

    private static void digestOfAll() {
        List<Long> values = new ArrayList<>();
        add(values, 2, 1, 2, 3, 1, 4, 2);
        add(values, 11, 12, 13, -1, -1, -1, -1, -1, -1, 21, 22, 23);
        add(values, 17, 5);
        add(values, 3, 2, 3, 3, 0, NONE, NONE, 0);
        add(values, 7, 5, 5, 9, 0, 3, 30, 1);
        add(values, 4, 0, 2, 2, 1, NONE, NONE, 4);
        add(values, -1, -1, 3, 1, 0, 1, -1, -1, -1, -1, -1);
        add(values, 3, 5, 0, 1, -7, 0, 6, NONE, 0, 0, 4, 7, 0, 1, 7, 5, 8, NONE, 1, 0);
        add(values, -1, 2, 5, -6, -1, -1, 3, 1, 0, 1, -1);
        add(values, 14, -56, 'B', '3', '/', 'b', 'A', 'C', '5', '-', '9', '/', 'c', '2', '!', -1, -1, -1);
        long[] all = new long[values.size()];
        for (int i = 0; i < all.length; i++) {
            all[i] = values.get(i);
        }
        ShadowNight x = full();
        EXPECT.due("digest()", x.digest(), digestOf(all));
        EXPECT.due("digest() again", x.digest(), digestOf(all));
    }

    private static void add(List<Long> values, int... more) {
        for (int v : more) {
            values.add((long) v);
        }
    }
}
