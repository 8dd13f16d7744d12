/** Promises 32 to 35: knocks. */
public final class KnocksTest {
    private static final Expect EXPECT = new Expect("KnocksTest");
    private static final int BAD = ShadowNight.BAD, NONE = ShadowNight.NONE;

    public static void main(String[] args) {
        knock();
        clear();
        sure();
        shortest();
        EXPECT.end();
    }

    private static ShadowNight withSigns(String... signs) {
        ShadowNight x = new ShadowNight();
        for (int i = 0; i < signs.length; i++) {
            if (signs[i].isEmpty()) {
                continue;
            }
            x.row(0, signs[i].length());
            for (int j = 0; j < signs[i].length(); j++) {
                x.lay(0, j, signs[i].charAt(j) - '0');
            }
            x.knock(i, 0);
        }
        return x;
    }

    private static void knock() {
        ShadowNight x = new ShadowNight();
        EXPECT.finds(x, "NOTHING", 0, x.knock(0, 0), 1);
        Expect.lay(x, 0, 0, 1, 1);
        EXPECT.due("knock(0, 0)", x.knock(0, 0), 3);
        EXPECT.due("count(4)", x.count(4), 1);
        Expect.lay(x, 0, 1, 1, 1, 1, 0, 0, 0, 0);
        EXPECT.due("knock(0, 0) anew", x.knock(0, 0), 8);
        EXPECT.due("knock(7, 0)", x.knock(7, 0), 8);
        EXPECT.due("count(4)", x.count(4), 2);
        EXPECT.due("r NONE", x.knock(0, NONE), 0);
        EXPECT.due("r NONE again", x.knock(0, NONE), 0);
        EXPECT.due("count(4)", x.count(4), 1);
        x.row(0, 9);
        EXPECT.finds(x, "nine", 0, x.knock(0, 0), 5);
        x.row(0, 0);
        EXPECT.finds(x, "none", 1, x.knock(0, 0), 5);
        Expect.lay(x, 0, 0, 2);
        EXPECT.finds(x, "two", 0, x.knock(0, 0), 3);
        Expect.lay(x, 0, -1, 0);
        EXPECT.finds(x, "below", 1, x.knock(0, 0), 3);
        Expect.lay(x, 0, 2, 2, 2, 2, 2, 2, 2, 2, 2);
        EXPECT.finds(x, "SIZE ahead of UNLIKE", 2, x.knock(0, 0), 5);
        EXPECT.due("sign 8", x.knock(8, 5), BAD);
        EXPECT.due("sign -1", x.knock(-1, NONE), BAD);
        EXPECT.due("row 6", x.knock(0, 6), BAD);
        EXPECT.due("row -1", x.knock(0, -1), BAD);
        EXPECT.due("row -8", x.knock(0, -8), BAD);
        Expect.lay(x, 0, 1);
        x.knock(3, 0);
        EXPECT.due("count(4), one of one knock", x.count(4), 2);
        x.lay(0, 0, 0);
        x.moment(0, 5, 0, 3, 0);
        EXPECT.due("the sign does not follow the ROW", withSigns("0", "", "", "1").clear(), NONE);
        EXPECT.due("one knock", x.mark(0, 5), 1);
    }

    private static void clear() {
        EXPECT.due("none", withSigns().clear(), NONE);
        EXPECT.due("one", withSigns("0").clear(), NONE);
        EXPECT.due("apart", withSigns("0", "10", "110", "111").clear(), NONE);
        EXPECT.due("beginning", withSigns("01", "1", "0").clear(), 20);
        EXPECT.due("the same", withSigns("01", "1", "", "01").clear(), 3);
        EXPECT.due("first of several", withSigns("11", "0110", "", "01", "010").clear(), 31);
        EXPECT.due("the last two", withSigns("", "", "", "", "", "", "10101011", "10101011").clear(), 67);
        EXPECT.due("seven of eight alike", withSigns("10101010", "10101011").clear(), NONE);
    }

    private static void sure() {
        EXPECT.due("none", withSigns().sure(), 1);
        EXPECT.due("one", withSigns("00").sure(), 1);
        EXPECT.due("clear", withSigns("0", "10", "11").sure(), 1);
        EXPECT.due("same", withSigns("10", "", "10").sure(), 0);
        EXPECT.due("not clear, but sure", withSigns("0", "01", "11").sure(), 1);
        EXPECT.due("no end is clear", withSigns("0", "01", "011").sure(), 1);
        EXPECT.due("0 1 0", withSigns("0", "1", "01").sure(), 0);
        EXPECT.due("010", withSigns("0", "01", "10").sure(), 0);
        EXPECT.due("long", withSigns("1", "011", "01110", "1110", "10011").sure(), 0);
        EXPECT.due("by powers", withSigns("00", "000").sure(), 0);
        EXPECT.due("eight long", withSigns("00000000", "0000000").sure(), 0);
        EXPECT.due("eight long, sure", withSigns("00000000", "00000001", "1").sure(), 1);
        EXPECT.due("eight", withSigns("000", "001", "010", "011", "100", "101", "110", "111").sure(), 1);
    }

    private static void shortest() {
        ShadowNight x = new ShadowNight();
        EXPECT.finds(x, "NOTHING", 0, x.shortest(5), 1);
        EXPECT.due("row 6", x.shortest(6), BAD);
        EXPECT.due("row NONE", x.shortest(NONE), BAD);
        Expect.lay(x, 0, 99);
        EXPECT.due("one", x.shortest(0), 99);
        Expect.lay(x, 0, 99, 1);
        EXPECT.due("two", x.shortest(0), 100);
        Expect.lay(x, 0, 1, 2, 3);
        EXPECT.due("three", x.shortest(0), 9);
        Expect.lay(x, 0, 3, 1, 2, 2, 5);
        EXPECT.due("five", x.shortest(0), 29);
        Expect.lay(x, 0, 99, 99, 99, 99, 99, 99, 99, 99);
        EXPECT.due("eight", x.shortest(0), 99 * 24);
        Expect.lay(x, 0, 1, 2, 4, 8, 16, 32, 64, 99);
        EXPECT.due("steep", x.shortest(0), 1 * 7 + 2 * 7 + 4 * 6 + 8 * 5 + 16 * 4 + 32 * 3 + 64 * 2 + 99);
        x.row(0, 9);
        EXPECT.finds(x, "nine", 0, x.shortest(0), 5);
        x.row(0, 0);
        EXPECT.finds(x, "none", 1, x.shortest(0), 5);
        Expect.lay(x, 0, 1, 0);
        EXPECT.finds(x, "0", 0, x.shortest(0), 3);
        Expect.lay(x, 0, 100, 1);
        EXPECT.finds(x, "100", 1, x.shortest(0), 3);
        Expect.lay(x, 0, 7, 7);
        EXPECT.due("the ROW is left as it is", x.shortest(0) + Expect.look(x, 0, 0) + Expect.look(x, 0, 1), 28);
    }
}
