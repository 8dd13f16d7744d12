/** Promises 17 to 24: stories, hands, the trunk. */
public final class StoriesTest {
    private static final Expect EXPECT = new Expect("StoriesTest");
    private static final int BAD = ShadowNight.BAD, NONE = ShadowNight.NONE;

    public static void main(String[] args) {
        faults();
        faultRefused();
        story();
        scene();
        hands();
        third();
        takings();
        reaching();
        trunk();
        EXPECT.end();
    }

    private static void fault(String signs, int due) {
        ShadowNight x = new ShadowNight();
        Expect.write(x, 0, signs);
        EXPECT.due("fault of '" + signs + "'", x.fault(0), due);
        EXPECT.due("story of '" + signs + "' is one", x.story(0) > 0 ? 1 : 0, due == NONE ? 1 : 0);
    }

    private static void faults() {
        fault("", 0);
        fault("   ", 3);
        fault("1", NONE);
        fault("  1  ", NONE);
        fault("99-99!", NONE);
        fault("abcdefgh12-34!/ABcdefgh1", NONE);
        fault("haBcGd7", NONE);
        fault("1 1", 2);
        fault("1 /1", 2);
        fault("1/ 1", 2);
        fault("a 1", 1);
        fault("1 -2", 2);
        fault("1- 2", 2);
        fault("1 !", 2);
        fault("1-2 !", 4);
        fault("a", 1);
        fault("a  ", 1);
        fault("a1-", 3);
        fault("a1/", 3);
        fault("a1/b", 4);
        fault("/1", 0);
        fault("!1", 0);
        fault("-1", 0);
        fault("i1", 0);
        fault("I1", 0);
        fault("`1", 0);
        fault("@1", 0);
        fault("aba1", 2);
        fault("aA1", 1);
        fault("AaB1", 1);
        fault("ABC1", 2);
        fault("AbBC1", 2);
        fault("AbCB1", 3);
        fault("AbCdE1", 4);
        fault("0", 1);
        fault("00", 2);
        fault("0/1", 1);
        fault("05", NONE);
        fault("100", 2);
        fault("1-100", 4);
        fault("5-4", 3);
        fault("50-4", 4);
        fault("50-49!", 5);
        fault("50-5", 4);
        fault("5-0", 3);
        fault("5-00", 4);
        fault("5-05", NONE);
        fault("5--6", 2);
        fault("5-6-7", 3);
        fault("5!-6", 2);
        fault("5!6", 2);
        fault("1a", 1);
        fault("1/1/1/1/1/1/1/1/1/1/1/1", NONE);
        fault("1/1/1/1/1/1/1/1/1/1/1/1/1", 23);
        fault("1/1/1/1/1/1/1/1/1/1/1/1/", 23);
        fault("1/1/1/1/1/1/1/1/1/1/1/1 /", 24);
        fault(" 1\u0000", 2);
        fault(" 1\u00a0", 2);
    }

    private static void faultRefused() {
        ShadowNight x = new ShadowNight();
        EXPECT.finds(x, "fault of nothing", 0, x.fault(3), 1);
        EXPECT.due("fault(4)", x.fault(4), BAD);
        EXPECT.due("fault(-1)", x.fault(-1), BAD);
        EXPECT.finds(x, "story of nothing", 1, x.story(3), 1);
        EXPECT.due("story(4)", x.story(4), BAD);
        EXPECT.due("story(-1)", x.story(-1), BAD);
    }

    private static void story() {
        ShadowNight x = new ShadowNight();
        EXPECT.due("story", Expect.tell(x, "a1/b2/C3"), 3);
        x.markScene(1, 0, 5);
        x.need(2, 2);
        Expect.write(x, 1, "a1/b");
        EXPECT.due("a FAULT", x.story(1), ShadowNight.STATE);
        EXPECT.due("fault changes no story", x.fault(1), 4);
        EXPECT.due("no finding", x.finding(), 0);
        EXPECT.due("still 3 scenes", x.count(3), 3);
        EXPECT.due("NEED holds still", x.good(0), 0);
        x.text(0, 0);
        EXPECT.asks(x, "the TEXT is not looked at again", x.scene(2, 1), 4);
        EXPECT.due("the same again", Expect.tell(x, "a1/b2/C3"), 3);
        EXPECT.due("NEEDS are gone", x.good(0), 1);
        EXPECT.due("MARKS are gone", x.good(2), 1);
        EXPECT.due("shorter", Expect.tell(x, " 7 "), 1);
        EXPECT.due("count(3)", x.count(3), 1);
    }

    private static void scene() {
        ShadowNight x = new ShadowNight();
        Expect.tell(x, "hAb5-17!/9");
        int[] first = {131, 1, 5, 17, 1};
        int[] second = {0, 0, 9, 9, 0};
        for (int what = 0; what < 5; what++) {
            EXPECT.asks(x, "scene(0, " + what + ")", x.scene(0, what), first[what]);
            EXPECT.asks(x, "scene(1, " + what + ")", x.scene(1, what), second[what]);
        }
        EXPECT.due("scene(2, 0)", x.scene(2, 0), BAD);
        EXPECT.due("scene(-1, 0)", x.scene(-1, 0), BAD);
        EXPECT.due("scene(0, 5)", x.scene(0, 5), BAD);
        EXPECT.due("scene(0, -1)", x.scene(0, -1), BAD);
    }

    private static void hands(String signs, int due) {
        ShadowNight x = new ShadowNight();
        Expect.tell(x, signs);
        EXPECT.due("hands of '" + signs + "'", x.hands(), due);
    }

    private static void hands() {
        EXPECT.due("no story", new ShadowNight().hands(), 0);
        hands("1", 0);
        hands("a1", 2);
        hands("A1", 2);
        hands("ab1", 4);
        hands("abc1", 8);
        hands("ABc1", 8);
        hands("A1/1/A1", 2);
        hands("A1/B1/A1", 4);
        hands("A1/BC1/A1", 8);
        hands("a1/BC1/a1", 8);
        hands("abcdef1", 20);
        hands("a1/b1/c1/d1/e1/f1", 12);
        hands("abcdefg1", ShadowNight.SPENT);
        hands("a1/b1/c1/d1/e1/f1/g1", ShadowNight.SPENT);
        hands("h1/g1/AB1", 8);
    }

    private static void third() {
        ShadowNight x = new ShadowNight();
        EXPECT.due("no story", x.third(), NONE);
        Expect.tell(x, "ab1/AB1/1");
        EXPECT.due("two at most", x.third(), NONE);
        Expect.tell(x, "ab1/ABch1/abc1");
        EXPECT.due("four", x.third(), 1);
        Expect.tell(x, "abc1/ab1");
        EXPECT.due("the first of all", x.third(), 0);
        Expect.tell(x, "ab1/1/abC1");
        EXPECT.due("three", x.third(), 2);
    }

    private static void takings() {
        ShadowNight x = new ShadowNight();
        x.row(0, 1);
        x.at(0, 0);
        EXPECT.due("no story", x.takings(), 0);
        EXPECT.due("asked()", x.asked(), NONE);
        Expect.tell(x, "hCa1/1/hb2/Bh1");
        EXPECT.due("takings()", x.takings(), 5);
        EXPECT.due("asked()", x.asked(), 7);
        Expect.tell(x, "hba1/ab1");
        EXPECT.due("takings()", x.takings(), 3);
        EXPECT.due("by their numbers", x.asked(), 7);
    }

    private static void reaching() {
        ShadowNight x = new ShadowNight();
        EXPECT.finds(x, "nothing", 0, x.reaching(0), 1);
        EXPECT.due("reaching(6)", x.reaching(6), BAD);
        EXPECT.due("reaching(-1)", x.reaching(-1), BAD);
        Expect.tell(x, "ac1/h1/a1/c1");
        Expect.lay(x, 0, 0, 2, 7);
        EXPECT.due("a c h", x.reaching(0), 1 + 1 + 2 + 1);
        Expect.lay(x, 0, 7, 2, 0);
        EXPECT.due("h c a", x.reaching(0), 2 + 1 + 1 + 2 + 1);
        Expect.lay(x, 0, 0, 2);
        EXPECT.finds(x, "too few", 0, x.reaching(0), 5);
        Expect.lay(x, 0, 0, 2, 7, 1);
        EXPECT.finds(x, "too many", 1, x.reaching(0), 5);
        Expect.lay(x, 0, 0, 2, 2);
        EXPECT.finds(x, "twice", 0, x.reaching(0), 3);
        Expect.lay(x, 0, 0, 2, 1);
        EXPECT.finds(x, "not of the story", 1, x.reaching(0), 3);
        Expect.lay(x, 0, 0, 2, 39);
        EXPECT.finds(x, "no HIDE", 2, x.reaching(0), 3);
        Expect.lay(x, 0, 0, -32, 7);
        EXPECT.finds(x, "below all", 3, x.reaching(0), 3);
    }

    private static void trunk() {
        ShadowNight x = new ShadowNight();
        EXPECT.due("no story", x.trunk(5), 0);
        EXPECT.due("an empty order is there", x.count(0), 1);
        EXPECT.finds(x, "empty", 0, x.at(5, 0), 2);
        EXPECT.due("trunk(6)", x.trunk(6), BAD);
        EXPECT.due("trunk(-1)", x.trunk(-1), BAD);
        Expect.tell(x, "b1/h1/b1/h1/c1");
        x.row(2, 40);
        EXPECT.due("trunk(2)", x.trunk(2), 4);
        int[] order = {1, 7, 2};
        for (int i = 0; i < order.length; i++) {
            EXPECT.due("place " + i, Expect.look(x, 2, i), order[i]);
        }
        EXPECT.finds(x, "no longer", 1, x.at(2, 3), 2);
        EXPECT.due("reaching of it", x.reaching(2), 4);
        Expect.tell(x, "abcdefgh1");
        EXPECT.due("all", x.trunk(2), 7);
        for (int i = 0; i < 8; i++) {
            EXPECT.due("all " + i, Expect.look(x, 2, i), i);
        }
    }
}
