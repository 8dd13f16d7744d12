/** Objects to begin a test with, in which as much as can be is not as it is at first. */
final class Furnished {
    static final String STORY = "aB3/bAC5-9/c2!/dab4-6/H1/AH9-20!";

    private Furnished() {
    }

    /** ROWS 4, 5, TEXT 3, HIDES 3 to 6, signs 1 to 6 are missing; asked() is -6, the fraction 55 by 2. */
    static ShadowNight night() {
        ShadowNight x = new ShadowNight();
        Expect.lay(x, 0, 5, -6, 7);
        x.row(1, 0);
        x.row(2, 40);
        Expect.lay(x, 3, 0, 1, 1);
        Expect.tell(x, STORY);
        x.text(1, 0);
        x.text(2, 60);
        x.hide(0, 11, 12, 0x00F3);
        x.hide(1, 60, 60, 0xFFFF);
        x.hide(2, 1, 1, 0x0001);
        x.hide(7, 21, 22, 0x8421);
        x.lamp(20, 3);
        x.markScene(2, 8, 12);
        x.markScene(5, 15, 20);
        x.need(5, 7);
        x.need(3, 1);
        x.knock(0, 3);
        x.row(3, 1);
        x.knock(7, 3);
        tellMoments(x);
        x.mean(4);
        x.at(0, 3);
        return prime(x);
    }

    private static void tellMoments(ShadowNight x) {
        x.moment(10, 0, 0, 0, 0);
        x.moment(20, 1, 0, 1, 0);
        x.moment(30, 2, 1, 9, 0);
        x.moment(30, 3, 2, 0, -40);
        x.moment(40, 4, 0, 1, 2);
        x.moment(5, 5, 0, 7, 0);
        x.moment(60, 6, 0, 4, 0);
        x.moment(50, 6, 0, 5, 0);
    }

    /** Something is told by asked(), upper() and lower(), so that it can be seen to stay. */
    private static ShadowNight prime(ShadowNight x) {
        x.at(0, 1);
        x.shadow(0, 12, 0, 0);
        return x;
    }

    /** As night(), but no ROW, TEXT or HIDE is missing. */
    static ShadowNight allThere() {
        ShadowNight x = night();
        x.row(4, 1);
        x.row(5, 1);
        x.text(3, 1);
        for (int k = 3; k <= 6; k++) {
            x.hide(k, 30 + k, 40 + k, 1 << k | 0x0F00);
        }
        return x;
    }

    /** As night(), with 40 MOMENTS. */
    static ShadowNight fortyMoments() {
        ShadowNight x = night();
        for (int m = x.count(5); m < 40; m++) {
            x.moment(m, 0, 0, 0, 0);
        }
        return x;
    }

    /** As night(), with MARKS for scenes 0, 1, 2, 5. */
    static ShadowNight fourMarks() {
        ShadowNight x = night();
        x.markScene(0, 0, 0);
        x.markScene(1, 0, 999);
        return x;
    }

    /** As night(), but with another STORY (of TEXT 0), without MARKS and NEEDS. */
    static ShadowNight telling(String story) {
        ShadowNight x = night();
        Expect.tell(x, story);
        return x;
    }

    /** As night(), but ROW 0 has these ints. */
    static ShadowNight laying(int... values) {
        ShadowNight x = night();
        Expect.lay(x, 0, values);
        x.about(0, 0);
        return x;
    }

    /** As night(), but with just these HIDES (an OUTLINE 0: missing). */
    static ShadowNight outlines(int... outlines) {
        ShadowNight x = night();
        for (int k = 0; k < 8; k++) {
            if (k < outlines.length && outlines[k] != 0) {
                x.hide(k, 10 + k, 20 + k, outlines[k]);
            } else {
                x.drop(k);
            }
        }
        return x;
    }

    /** As night(), but with just these signs (of 0 and 1; an empty one: none). */
    static ShadowNight signs(String... signs) {
        ShadowNight x = night();
        for (int i = 0; i < 8; i++) {
            String knocks = i < signs.length ? signs[i] : "";
            if (knocks.isEmpty()) {
                x.knock(i, ShadowNight.NONE);
                continue;
            }
            x.row(5, knocks.length());
            for (int j = 0; j < knocks.length(); j++) {
                x.lay(5, j, knocks.charAt(j) - '0');
            }
            x.knock(i, 5);
        }
        x.tear(5);
        x.about(0, 0);
        return x;
    }
}
