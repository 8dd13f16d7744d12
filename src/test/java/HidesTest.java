/** Promises 10 to 16 and 36 to 38: HIDES, shadows and outlines. */
public final class HidesTest {
    private static final Expect EXPECT = new Expect("HidesTest");
    private static final int BAD = ShadowNight.BAD, NONE = ShadowNight.NONE;
    private static final int[] FAR = {-1, 8, Integer.MAX_VALUE, Integer.MIN_VALUE};

    public static void main(String[] args) {
        hideAndDrop();
        lamp();
        about();
        shadow();
        covers();
        place();
        apart();
        leastApart();
        matters();
        EXPECT.end();
    }

    private static void hideAndDrop() {
        ShadowNight x = new ShadowNight();
        EXPECT.due("hide(0, 1, 60, 65535)", x.hide(0, 1, 60, 65535), 16);
        EXPECT.due("hide(7, 60, 1, 1)", x.hide(7, 60, 1, 1), 1);
        EXPECT.due("hide(7, 60, 1, 0x8001) anew", x.hide(7, 60, 1, 0x8001), 2);
        EXPECT.due("count(2)", x.count(2), 2);
        EXPECT.due("width 0", x.hide(1, 0, 1, 1), BAD);
        EXPECT.due("width 61", x.hide(1, 61, 1, 1), BAD);
        EXPECT.due("height 0", x.hide(1, 1, 0, 1), BAD);
        EXPECT.due("height 61", x.hide(1, 1, 61, 1), BAD);
        EXPECT.due("outline 0", x.hide(1, 1, 1, 0), BAD);
        EXPECT.due("outline 65536", x.hide(1, 1, 1, 65536), BAD);
        EXPECT.due("outline -1", x.hide(1, 1, 1, -1), BAD);
        EXPECT.due("drop(0)", x.drop(0), 1);
        EXPECT.finds(x, "drop(0) again", 0, x.drop(0), 1);
        EXPECT.due("count(2)", x.count(2), 1);
        for (int k : FAR) {
            EXPECT.due("hide(" + k + ")", x.hide(k, 1, 1, 1), BAD);
            EXPECT.due("drop(" + k + ")", x.drop(k), BAD);
        }
    }

    private static void lamp() {
        ShadowNight x = new ShadowNight();
        EXPECT.due("lamp(2, 0)", x.lamp(2, 0), 1);
        EXPECT.due("lamp(60, 9)", x.lamp(60, 9), 1);
        EXPECT.due("lamp(1, 0)", x.lamp(1, 0), BAD);
        EXPECT.due("lamp(61, 0)", x.lamp(61, 0), BAD);
        EXPECT.due("lamp(2, -1)", x.lamp(2, -1), BAD);
        EXPECT.due("lamp(2, 10)", x.lamp(2, 10), BAD);
        x.hide(0, 1, 1, 1);
        EXPECT.fraction(x, "the lamp is the last one not refused", x.shadow(0, 59, 0, 3), 1, 531, 1);
    }

    private static void about() {
        ShadowNight x = new ShadowNight();
        x.hide(3, 11, 22, 0b0001_0010_0110_1000);
        EXPECT.asks(x, "width", x.about(3, 0), 11);
        EXPECT.asks(x, "height", x.about(3, 1), 22);
        EXPECT.asks(x, "outline", x.about(3, 2), 0b0001_0010_0110_1000);
        EXPECT.asks(x, "turned", x.about(3, 3), 0b1000_0100_0110_0001);
        EXPECT.due("about(3, 4)", x.about(3, 4), BAD);
        EXPECT.due("about(3, -1)", x.about(3, -1), BAD);
        EXPECT.finds(x, "about(4, 0)", 0, x.about(4, 0), 1);
        EXPECT.due("BAD ahead of NOTHING", x.about(4, 4), BAD);
        for (int k : FAR) {
            EXPECT.due("about(" + k + ")", x.about(k, 0), BAD);
        }
    }

    private static void shadow() {
        ShadowNight x = new ShadowNight();
        x.hide(0, 7, 9, 1);
        x.lamp(20, 3);
        EXPECT.fraction(x, "wide", x.shadow(0, 6, -5, 0), 1, 10, 1);
        EXPECT.fraction(x, "high", x.shadow(0, 6, -5, 1), 1, 90, 7);
        EXPECT.fraction(x, "off", x.shadow(0, 6, -5, 2), 1, -50, 7);
        EXPECT.fraction(x, "soft", x.shadow(0, 6, -5, 3), 1, 9, 7);
        EXPECT.due("z 20", x.shadow(0, 20, 0, 0), BAD);
        EXPECT.due("z -1", x.shadow(0, -1, 0, 0), BAD);
        EXPECT.due("x 100", x.shadow(0, 0, 100, 0), BAD);
        EXPECT.due("x -100", x.shadow(0, 0, -100, 0), BAD);
        EXPECT.due("what 4", x.shadow(0, 0, 0, 4), BAD);
        EXPECT.due("what -1", x.shadow(0, 0, 0, -1), BAD);
        EXPECT.finds(x, "missing", 0, x.shadow(1, 0, 0, 0), 1);
        EXPECT.due("BAD ahead of NOTHING", x.shadow(1, 20, 0, 0), BAD);
        EXPECT.fraction(x, "refused: told last", 1, 1, 9, 7);
        EXPECT.fraction(x, "off by nothing", x.shadow(0, 6, 0, 2), 1, 0, 1);
        EXPECT.fraction(x, "sharp at the cloth", x.shadow(0, 0, 99, 3), 1, 0, 1);
        x.lamp(20, 0);
        EXPECT.fraction(x, "sharp by a small lamp", x.shadow(0, 19, 99, 3), 1, 0, 1);
        EXPECT.fraction(x, "greatest", x.shadow(0, 19, -99, 2), 1, -1980, 1);
        for (int k : FAR) {
            EXPECT.due("shadow(" + k + ")", x.shadow(k, 0, 0, 0), BAD);
        }
    }

    private static void covers() {
        ShadowNight x = new ShadowNight();
        x.hide(0, 3, 1, 1);
        x.hide(1, 2, 60, 1);
        EXPECT.due("wider", x.covers(0, 0, 0, 1, 0, 0), 1);
        EXPECT.due("narrower", x.covers(1, 0, 0, 0, 0, 0), 0);
        EXPECT.due("half a step out at the right", x.covers(0, 0, 0, 1, 0, 1), 0);
        EXPECT.due("half a step out at the left", x.covers(0, 0, 0, 1, 0, -1), 0);
        EXPECT.due("itself", x.covers(1, 7, 3, 1, 7, 3), 1);
        EXPECT.due("just as wide by its place", x.covers(1, 10, 0, 0, 0, 0), 1);
        EXPECT.due("not quite as wide", x.covers(1, 9, 0, 0, 0, 0), 0);
        EXPECT.due("far off", x.covers(1, 29, 5, 0, 0, 0), 0);
        EXPECT.due("z 30", x.covers(0, 30, 0, 1, 0, 0), BAD);
        EXPECT.due("w 30", x.covers(0, 0, 0, 1, 30, 0), BAD);
        EXPECT.due("z -1", x.covers(0, -1, 0, 1, 0, 0), BAD);
        EXPECT.due("w -1", x.covers(0, 0, 0, 1, -1, 0), BAD);
        EXPECT.due("x 100", x.covers(0, 0, 100, 1, 0, 0), BAD);
        EXPECT.due("y -100", x.covers(0, 0, 0, 1, 0, -100), BAD);
        EXPECT.finds(x, "missing", 0, x.covers(2, 0, 0, 0, 0, 0), 1);
        EXPECT.finds(x, "other missing", 1, x.covers(0, 0, 0, 2, 0, 0), 1);
        for (int k : FAR) {
            EXPECT.due("covers(" + k + ")", x.covers(k, 0, 0, 2, 0, 0), BAD);
            EXPECT.due("covers other " + k, x.covers(2, 0, 0, k, 0, 0), BAD);
        }
    }

    private static void place() {
        ShadowNight x = new ShadowNight();
        x.hide(0, 10, 1, 1);
        EXPECT.fraction(x, "place(0, 12)", x.place(0, 12), 1, 5, 1);
        EXPECT.fraction(x, "place(0, 16)", x.place(0, 16), 0, 45, 4);
        EXPECT.due("place(0, 9)", x.place(0, 9), NONE);
        EXPECT.fraction(x, "NONE: told last", 1, 1, 45, 4);
        EXPECT.fraction(x, "place(0, 10)", x.place(0, 10), 1, 0, 1);
        EXPECT.due("s 0", x.place(0, 0), BAD);
        EXPECT.due("s 10000", x.place(0, 10000), BAD);
        EXPECT.due("s 9999", x.place(0, 9999), 0);
        EXPECT.finds(x, "missing", 0, x.place(1, 1), 1);
        EXPECT.due("BAD ahead of NOTHING", x.place(1, 0), BAD);
        for (int k : FAR) {
            EXPECT.due("place(" + k + ")", x.place(k, 1), BAD);
        }
    }

    private static void apart() {
        ShadowNight x = new ShadowNight();
        x.hide(0, 1, 1, 0b0001);
        x.hide(1, 1, 1, 0b1000);
        x.hide(2, 1, 1, 0b0110);
        EXPECT.due("turned they are alike", x.apart(0, 1), 0);
        EXPECT.due("apart(0, 2)", x.apart(0, 2), 3);
        EXPECT.due("apart(2, 1)", x.apart(2, 1), 3);
        EXPECT.due("itself", x.apart(2, 2), 0);
        EXPECT.finds(x, "missing", 0, x.apart(0, 3), 1);
        EXPECT.finds(x, "missing", 1, x.apart(3, 0), 1);
        for (int k : FAR) {
            EXPECT.due("apart(" + k + ", 3)", x.apart(k, 3), BAD);
            EXPECT.due("apart(3, " + k + ")", x.apart(3, k), BAD);
        }
    }

    private static void leastApart() {
        ShadowNight x = new ShadowNight();
        EXPECT.due("none", x.leastApart(), NONE);
        x.hide(5, 1, 1, 1);
        EXPECT.due("one", x.leastApart(), NONE);
        EXPECT.due("asked() stays", x.asked(), 0);
        x.hide(7, 1, 1, 3);
        EXPECT.due("two", x.leastApart(), 1);
        EXPECT.due("asked()", x.asked(), 57);
        x.hide(2, 1, 1, 0x0F00);
        EXPECT.due("three", x.leastApart(), 1);
        EXPECT.due("asked()", x.asked(), 57);
        x.hide(0, 1, 1, 0x0700);
        EXPECT.due("alike ones: the first", x.leastApart(), 1);
        EXPECT.due("asked()", x.asked(), 2);
        x.hide(6, 1, 1, 0x000C);
        EXPECT.due("turned alike", x.leastApart(), 0);
        EXPECT.due("asked()", x.asked(), 67);
    }

    private static void matters() {
        ShadowNight x = new ShadowNight();
        EXPECT.finds(x, "missing", 0, x.matters(0), 1);
        x.hide(0, 1, 1, 0b0111);
        EXPECT.due("alone", x.matters(0), 0b0111);
        x.hide(1, 1, 1, 0b0001);
        // least 2: without cell 0 they are 3 apart, without cell 1 or 2 just 1
        EXPECT.due("matters(0)", x.matters(0), 0b0001);
        EXPECT.due("last cell", x.matters(1), 0);
        x.hide(2, 1, 1, 0b0001);
        EXPECT.due("nothing comes below 0", x.matters(0), 0b0111);
        for (int k : FAR) {
            EXPECT.due("matters(" + k + ")", x.matters(k), BAD);
        }
        int asked = x.asked();
        x.matters(0);
        EXPECT.due("matters tells nothing by asked()", x.asked(), asked);
    }
}
