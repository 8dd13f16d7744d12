/** Promises 25 to 31: the night. */
public final class NightTest {
    private static final Expect EXPECT = new Expect("NightTest");
    private static final int BAD = ShadowNight.BAD, NONE = ShadowNight.NONE;
    private static final int LEAST = Integer.MIN_VALUE, MOST = Integer.MAX_VALUE;

    public static void main(String[] args) {
        markScene();
        need();
        good();
        best();
        begins();
        laughter();
        tale();
        EXPECT.end();
    }

    private static void markScene() {
        ShadowNight x = new ShadowNight();
        EXPECT.due("no scene", x.markScene(0, 0, 0), BAD);
        Expect.tell(x, "1/1/1/1/1");
        EXPECT.due("first", x.markScene(0, 0, 999), 1);
        EXPECT.due("the same anew", x.markScene(0, 5, 5), 1);
        EXPECT.due("the last told counts", x.good(0), 0);
        EXPECT.due("the same anew", x.markScene(0, 0, 0), 1);
        EXPECT.due("the last told counts", x.good(0), 1);
        EXPECT.due("second", x.markScene(4, 999, 999), 2);
        EXPECT.due("third", x.markScene(3, 0, 999), 3);
        EXPECT.due("fourth", x.markScene(2, 0, 999), 4);
        EXPECT.due("a fifth", x.markScene(1, 0, 999), ShadowNight.FULL);
        EXPECT.due("BAD ahead of FULL", x.markScene(1, 1, 0), BAD);
        EXPECT.due("anew, not a fifth", x.markScene(4, 4, 4), 4);
        EXPECT.due("a scene without MARK is cut", x.good(2), 0);
        EXPECT.due("none is cut", x.good(0), 1);
        EXPECT.due("a above b", x.markScene(0, 2, 1), BAD);
        EXPECT.due("a below 0", x.markScene(0, -1, 1), BAD);
        EXPECT.due("b above 999", x.markScene(0, 1, 1000), BAD);
        EXPECT.due("scene 5", x.markScene(5, 0, 1), BAD);
        EXPECT.due("scene -1", x.markScene(-1, 0, 1), BAD);
    }

    private static void need() {
        ShadowNight x = new ShadowNight();
        EXPECT.due("no scene", x.need(0, 0), BAD);
        Expect.tell(x, "aB1/b1/Ab1/1");
        EXPECT.due("need(2, 0)", x.need(2, 0), 1);
        EXPECT.due("need(2, 0) again", x.need(2, 0), 1);
        EXPECT.due("need(2, 1)", x.need(2, 1), 1);
        EXPECT.due("not shown", x.need(1, 0), BAD);
        EXPECT.due("not shown", x.need(3, 0), BAD);
        EXPECT.due("no HIDE", x.need(2, 8), BAD);
        EXPECT.due("no HIDE", x.need(2, 32), BAD);
        EXPECT.due("no HIDE", x.need(2, -1), BAD);
        EXPECT.due("scene 4", x.need(4, 0), BAD);
        EXPECT.due("scene -1", x.need(-1, 0), BAD);
        EXPECT.due("all shown ahead", x.good(0), 1);
        EXPECT.due("b shown by scene 0 as well", x.good(2), 1);
        EXPECT.due("a not shown ahead", x.good(1), 0);
        EXPECT.due("the needing one is cut, too", x.good(5), 1);
    }

    private static void good() {
        ShadowNight x = new ShadowNight();
        EXPECT.due("no scenes", x.good(0), 1);
        EXPECT.due("good(1)", x.good(1), BAD);
        Expect.tell(x, "5-9/3!/4/2");
        EXPECT.due("none cut", x.good(0), 1);
        EXPECT.due("all cut but !", x.good(13), 1);
        EXPECT.due("! cut", x.good(2), 0);
        EXPECT.due("no such scene", x.good(16), BAD);
        EXPECT.due("below 0", x.good(-1), BAD);
        EXPECT.due("least", x.good(LEAST), BAD);
        x.markScene(3, 13, 13);
        EXPECT.due("lengthened", x.good(0), 1);
        x.markScene(3, 16, 20);
        EXPECT.due("the most it can be", x.good(0), 1);
        x.markScene(3, 17, 20);
        EXPECT.due("too late a MARK", x.good(0), 0);
        x.markScene(3, 0, 11);
        EXPECT.due("too early a MARK", x.good(0), 0);
        EXPECT.due("cut for it", x.good(4), 1);
        EXPECT.due("a scene with MARK can't be cut", x.good(8), 0);
        x.markScene(1, 9, 9);
        x.markScene(3, 15, 16);
        EXPECT.due("both MARKS", x.good(0), 1);
        x.markScene(3, 14, 15);
        EXPECT.due("MARKS apart", x.good(0), 0);
    }

    private static void best() {
        ShadowNight x = new ShadowNight();
        EXPECT.due("no scenes", x.best(), 0);
        EXPECT.due("asked()", x.asked(), 0);
        Expect.tell(x, "4/6/3-5/2/1");
        x.markScene(4, 0, 9);
        EXPECT.due("best()", x.best(), 2);
        EXPECT.due("asked()", x.asked(), 6);
        x.markScene(4, 0, 10);
        EXPECT.due("of alike ones the least bits", x.best(), 12);
        EXPECT.due("asked()", x.asked(), 5);
        x.markScene(4, 15, 99);
        EXPECT.due("lengthened", x.best(), 0);
        EXPECT.due("asked()", x.asked(), 0);
        x.markScene(4, 18, 99);
        EXPECT.due("never", x.best(), NONE);
        EXPECT.due("asked() stays", x.asked(), 0);
        Expect.tell(x, "5/5/5/5!");
        x.markScene(3, 0, 12);
        EXPECT.due("alike lengths", x.best(), 1);
        EXPECT.due("asked()", x.asked(), 5);
        Expect.tell(x, "a9!");
        x.need(0, 0);
        EXPECT.due("a NEED never met", x.best(), NONE);
        Expect.tell(x, "99/99/99/99/99/99/99/99/99/99/99/a99");
        x.need(11, 0);
        x.markScene(0, 0, 0);
        EXPECT.due("the last one cut", x.best(), 2048);
        EXPECT.due("asked()", x.asked(), 99);
    }

    private static void begins() {
        ShadowNight x = new ShadowNight();
        EXPECT.due("no scene", x.begins(0, 0), BAD);
        Expect.tell(x, "5-9/a3!/4-6/2");
        EXPECT.due("begins(0, 0)", x.begins(0, 0), 0);
        EXPECT.due("asked()", x.asked(), 0);
        EXPECT.due("begins(0, 3)", x.begins(0, 3), 12);
        EXPECT.due("asked()", x.asked(), 18);
        x.need(1, 0);
        EXPECT.due("NEEDS, ! are not looked at", x.begins(2, 3), 9);
        EXPECT.due("asked()", x.asked(), 15);
        x.markScene(1, 6, 8);
        EXPECT.due("a MARK ahead", x.begins(0, 3), 13);
        EXPECT.due("asked()", x.asked(), 17);
        EXPECT.due("a MARK of a cut scene", x.begins(2, 3), 9);
        EXPECT.due("asked()", x.asked(), 15);
        x.markScene(3, 16, 30);
        EXPECT.due("its own MARK", x.begins(0, 3), 16);
        EXPECT.due("asked()", x.asked(), 17);
        EXPECT.due("a later MARK is not looked at", x.begins(0, 2), 9);
        EXPECT.due("asked()", x.asked(), 11);
        EXPECT.due("it is cut", x.begins(8, 3), NONE);
        EXPECT.due("never", x.begins(5, 3), NONE);
        EXPECT.due("never, by one ahead", x.begins(1, 2), NONE);
        EXPECT.due("asked() stays", x.asked(), 11);
        EXPECT.due("scene 4", x.begins(0, 4), BAD);
        EXPECT.due("scene -1", x.begins(0, -1), BAD);
        EXPECT.due("cut 16", x.begins(16, 0), BAD);
        EXPECT.due("cut -1", x.begins(-1, 0), BAD);
    }

    private static void laughter() {
        ShadowNight x = new ShadowNight();
        EXPECT.due("no scene", x.laughter(0, 0), BAD);
        Expect.tell(x, "5-9/3-4/4!/1");
        EXPECT.due("nothing in the way", x.laughter(0, 0), 99);
        x.markScene(3, 0, 20);
        EXPECT.due("paid by others' LEAST", x.laughter(0, 0), 8);
        EXPECT.due("a cut pays", x.laughter(2, 0), 11);
        EXPECT.due("in !", x.laughter(0, 2), 8);
        EXPECT.due("behind the MARK", x.laughter(0, 3), 99);
        x.markScene(3, 15, 16);
        EXPECT.due("just so long", x.laughter(0, 1), 4);
        x.markScene(3, 12, 12);
        EXPECT.due("none is left", x.laughter(0, 0), 0);
        x.markScene(3, 0, 11);
        EXPECT.due("not even none", x.laughter(0, 0), NONE);
        x.markScene(3, 250, 250);
        EXPECT.due("too far", x.laughter(0, 0), NONE);
        x.markScene(3, 0, 99);
        EXPECT.due("! is cut", x.laughter(4, 0), NONE);
        EXPECT.due("the scene is cut", x.laughter(1, 0), BAD);
        EXPECT.due("scene 4", x.laughter(0, 4), BAD);
        EXPECT.due("scene -1", x.laughter(0, -1), BAD);
        EXPECT.due("scene 32", x.laughter(0, 32), BAD);
        EXPECT.due("cut 16", x.laughter(16, 0), BAD);
        EXPECT.due("cut -2", x.laughter(-2, 0), BAD);
    }

    private static void tale() {
        ShadowNight x = new ShadowNight();
        EXPECT.due("none wished", x.tale(0), 0);
        EXPECT.due("asked()", x.asked(), 0);
        EXPECT.due("not shown", x.tale(1), NONE);
        Expect.tell(x, "ab5/c2/bc2/A1/abc9/d1");
        EXPECT.due("abc: one scene, however long", x.tale(7), 16);
        EXPECT.due("asked()", x.asked(), 9);
        EXPECT.due("a: the shortest", x.tale(1), 8);
        EXPECT.due("asked()", x.asked(), 1);
        EXPECT.due("c: of alike ones the least bits", x.tale(4), 2);
        EXPECT.due("asked()", x.asked(), 2);
        EXPECT.due("abd", x.tale(11), 33);
        EXPECT.due("asked()", x.asked(), 6);
        EXPECT.due("e is not shown", x.tale(31), NONE);
        EXPECT.due("asked() stays", x.asked(), 6);
        EXPECT.due("none wished", x.tale(0), 0);
        EXPECT.due("asked()", x.asked(), 0);
        EXPECT.due("tale(255)", x.tale(255), NONE);
        EXPECT.due("tale(256)", x.tale(256), BAD);
        EXPECT.due("tale(-1)", x.tale(-1), BAD);
        EXPECT.due("tale(most)", x.tale(MOST), BAD);
    }
}
