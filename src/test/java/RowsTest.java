/** Promises 1 to 9: a new object, ROWS and TEXTS. */
public final class RowsTest {
    private static final Expect EXPECT = new Expect("RowsTest");
    private static final int[] FAR = {-1, 6, 7, Integer.MAX_VALUE, Integer.MIN_VALUE};

    public static void main(String[] args) {
        newObject();
        row();
        layAndAt();
        tear();
        copy();
        mean();
        text();
        put();
        EXPECT.end();
    }

    private static void newObject() {
        ShadowNight x = new ShadowNight();
        for (int what = 0; what <= 6; what++) {
            EXPECT.due("count(" + what + ")", x.count(what), 0);
        }
        EXPECT.due("asked()", x.asked(), 0);
        EXPECT.due("upper()", x.upper(), 0);
        EXPECT.due("lower()", x.lower(), 1);
        EXPECT.due("finding()", x.finding(), 0);
        x.hide(0, 10, 20, 1);
        EXPECT.fraction(x, "THE LAMP is 30 ahead, 2 great", x.shadow(0, 15, 0, 3), 1, 2, 1);
        EXPECT.due("z 29", x.shadow(0, 29, 0, 0), 1);
        EXPECT.due("z 30", x.shadow(0, 30, 0, 0), ShadowNight.BAD);
        EXPECT.due("BAD", ShadowNight.BAD, -1);
        EXPECT.due("FULL", ShadowNight.FULL, -2);
        EXPECT.due("FINDING", ShadowNight.FINDING, -3);
        EXPECT.due("STATE", ShadowNight.STATE, -4);
        EXPECT.due("SPENT", ShadowNight.SPENT, -6);
        EXPECT.due("NONE", ShadowNight.NONE, -9);
    }

    private static void row() {
        ShadowNight x = new ShadowNight();
        EXPECT.due("row(0, 0)", x.row(0, 0), 0);
        EXPECT.due("row(5, 40)", x.row(5, 40), 40);
        EXPECT.due("count(0)", x.count(0), 2);
        x.lay(5, 39, 7);
        EXPECT.due("row(5, 40) anew", x.row(5, 40), 40);
        EXPECT.due("at(5, 39)", Expect.look(x, 5, 39), 0);
        EXPECT.due("row(0, 41)", x.row(0, 41), ShadowNight.BAD);
        EXPECT.due("row(6, -1): BAD comes first", x.row(6, -1), ShadowNight.BAD);
        for (int r : FAR) {
            EXPECT.due("row(" + r + ", 1)", x.row(r, 1), ShadowNight.BAD);
        }
        EXPECT.finds(x, "row(5, -1)", 0, x.row(5, -1), 5);
        EXPECT.finds(x, "row(5, least)", 1, x.row(5, Integer.MIN_VALUE), 5);
        EXPECT.due("what is refused changes nothing", x.at(5, 39), 1);
    }

    private static void layAndAt() {
        ShadowNight x = new ShadowNight();
        EXPECT.finds(x, "lay nothing", 0, x.lay(1, 0, 5), 1);
        EXPECT.finds(x, "at nothing", 1, x.at(1, 0), 1);
        x.row(1, 3);
        EXPECT.asks(x, "lay(1, 2, 5)", x.lay(1, 2, 5), 0);
        EXPECT.asks(x, "lay(1, 2, -6)", x.lay(1, 2, -6), 5);
        EXPECT.asks(x, "at(1, 2)", x.at(1, 2), -6);
        EXPECT.asks(x, "at(1, 1)", x.at(1, 1), 0);
        x.lay(1, 0, Integer.MIN_VALUE);
        EXPECT.asks(x, "at(1, 0)", x.at(1, 0), Integer.MIN_VALUE);
        EXPECT.finds(x, "lay(1, 3, 1)", 0, x.lay(1, 3, 1), 2);
        EXPECT.finds(x, "lay(1, -1, 1)", 1, x.lay(1, -1, 1), 2);
        EXPECT.finds(x, "at(1, 3)", 2, x.at(1, 3), 2);
        EXPECT.finds(x, "at(1, least)", 3, x.at(1, Integer.MIN_VALUE), 2);
        EXPECT.due("asked() stays", x.asked(), Integer.MIN_VALUE);
        for (int r : FAR) {
            EXPECT.due("lay(" + r + ", 0, 0)", x.lay(r, 0, 0), ShadowNight.BAD);
            EXPECT.due("at(" + r + ", 0)", x.at(r, 0), ShadowNight.BAD);
        }
    }

    private static void tear() {
        ShadowNight x = new ShadowNight();
        EXPECT.finds(x, "tear nothing", 0, x.tear(0), 1);
        x.row(0, 2);
        EXPECT.due("tear(0)", x.tear(0), 1);
        EXPECT.due("count(0)", x.count(0), 0);
        EXPECT.finds(x, "tear again", 1, x.tear(0), 1);
        EXPECT.finds(x, "at torn", 2, x.at(0, 0), 1);
        for (int r : FAR) {
            EXPECT.due("tear(" + r + ")", x.tear(r), ShadowNight.BAD);
        }
    }

    private static void copy() {
        ShadowNight x = new ShadowNight();
        Expect.lay(x, 0, 1, 2, 3, 4, 5);
        Expect.lay(x, 1, 9, 9);
        EXPECT.due("copy forth in itself", x.copy(0, 0, 0, 1, 4), 1);
        int[] forth = {1, 1, 2, 3, 4};
        for (int i = 0; i < forth.length; i++) {
            EXPECT.due("forth " + i, Expect.look(x, 0, i), forth[i]);
        }
        EXPECT.due("copy back in itself", x.copy(0, 1, 0, 0, 4), 1);
        int[] back = {1, 2, 3, 4, 4};
        for (int i = 0; i < back.length; i++) {
            EXPECT.due("back " + i, Expect.look(x, 0, i), back[i]);
        }
        EXPECT.due("copy to another one", x.copy(0, 2, 1, 0, 2), 1);
        EXPECT.due("to 0", Expect.look(x, 1, 0), 3);
        EXPECT.due("to 1", Expect.look(x, 1, 1), 4);
        int asked = x.asked();
        EXPECT.due("copy none at both ends", x.copy(0, 5, 1, 2, 0), 1);
        EXPECT.due("copy tells nothing by asked()", x.asked(), asked);
        EXPECT.finds(x, "from beyond", 0, x.copy(0, 3, 1, 0, 3), 2);
        EXPECT.finds(x, "to beyond", 1, x.copy(0, 0, 1, 1, 2), 2);
        EXPECT.finds(x, "none, from beyond", 2, x.copy(0, 6, 1, 0, 0), 2);
        EXPECT.finds(x, "none, ahead of all", 3, x.copy(0, -1, 1, 0, 0), 2);
        EXPECT.finds(x, "none, to ahead of all", 4, x.copy(0, 0, 1, -1, 0), 2);
        EXPECT.finds(x, "so many that sums wrap", 5, x.copy(0, 1, 1, 1, Integer.MAX_VALUE), 2);
        EXPECT.finds(x, "place so far that sums wrap", 6, x.copy(0, Integer.MAX_VALUE, 1, 0, 1), 2);
        EXPECT.finds(x, "NOTHING, from", 0, x.copy(2, 0, 1, 0, 1), 1);
        EXPECT.finds(x, "NOTHING, to", 1, x.copy(0, 0, 2, 0, 99), 1);
        EXPECT.finds(x, "SIZE comes ahead of NOTHING", 0, x.copy(2, 0, 3, 0, -1), 5);
        EXPECT.finds(x, "SIZE comes ahead of BEYOND", 1, x.copy(0, 77, 1, 0, -1), 5);
        for (int r : FAR) {
            EXPECT.due("copy from " + r, x.copy(r, 0, 0, 0, -1), ShadowNight.BAD);
            EXPECT.due("copy to " + r, x.copy(0, 0, r, 0, 1), ShadowNight.BAD);
        }
    }

    private static void mean() {
        ShadowNight x = new ShadowNight();
        EXPECT.finds(x, "mean of nothing", 0, x.mean(0), 1);
        x.row(0, 0);
        EXPECT.finds(x, "mean of none", 0, x.mean(0), 4);
        Expect.lay(x, 0, 3, 4);
        EXPECT.asks(x, "mean 3, 4", x.mean(0), 3);
        Expect.lay(x, 0, -3, -4);
        EXPECT.asks(x, "mean -3, -4", x.mean(0), -3);
        Expect.lay(x, 0, Integer.MAX_VALUE, Integer.MAX_VALUE, Integer.MAX_VALUE);
        EXPECT.asks(x, "mean of the greatest", x.mean(0), Integer.MAX_VALUE);
        Expect.lay(x, 0, Integer.MIN_VALUE, Integer.MIN_VALUE);
        EXPECT.asks(x, "mean of the least", x.mean(0), Integer.MIN_VALUE);
        for (int r : FAR) {
            EXPECT.due("mean(" + r + ")", x.mean(r), ShadowNight.BAD);
        }
    }

    private static void text() {
        ShadowNight x = new ShadowNight();
        EXPECT.due("text(3, 60)", x.text(3, 60), 60);
        EXPECT.due("text(0, 0)", x.text(0, 0), 0);
        EXPECT.due("count(1)", x.count(1), 2);
        EXPECT.due("blank", x.put(3, 59, 7), 1032);
        EXPECT.due("text(3, 60) anew", x.text(3, 60), 60);
        EXPECT.due("blank anew", x.put(3, 59, 7), 1032);
        EXPECT.due("text(0, 61)", x.text(0, 61), ShadowNight.BAD);
        EXPECT.due("text(4, -1)", x.text(4, -1), ShadowNight.BAD);
        EXPECT.due("text(-1, 1)", x.text(-1, 1), ShadowNight.BAD);
        EXPECT.finds(x, "text(0, -1)", 0, x.text(0, -1), 5);
    }

    private static void put() {
        ShadowNight x = new ShadowNight();
        EXPECT.finds(x, "put nothing", 0, x.put(0, 0, 0), 1);
        x.text(0, 2);
        EXPECT.due("put 255", x.put(0, 0, 255), 1032);
        EXPECT.due("put 128", x.put(0, 0, 128), 999);
        EXPECT.due("put 300", x.put(0, 0, 300), 872);
        EXPECT.due("put -129", x.put(0, 0, -129), 1044);
        EXPECT.due("put 0", x.put(0, 0, 0), 1127);
        EXPECT.finds(x, "put(0, 2, 0)", 0, x.put(0, 2, 0), 2);
        EXPECT.finds(x, "put(0, -1, 0)", 1, x.put(0, -1, 0), 2);
        EXPECT.due("put(4, 0, 0)", x.put(4, 0, 0), ShadowNight.BAD);
        EXPECT.due("put(-1, 0, 0)", x.put(-1, 0, 0), ShadowNight.BAD);
    }
}
