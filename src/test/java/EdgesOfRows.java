/** Promises 1 to 9: a new object, ROWS and TEXTS. */
final class EdgesOfRows {
    private static final int NOTHING = Edges.NOTHING, BEYOND = Edges.BEYOND, NOUGHT = Edges.NOUGHT, SIZE = Edges.SIZE;
    private static final int LEAST = Edges.LEAST, MOST = Edges.MOST;
    private final Edges e;

    EdgesOfRows(Edges edges) {
        e = edges;
    }

    void look() {
        terms();
        promise1NewObject();
        promise2Row();
        promise3Lay();
        promise4At();
        promise5Tear();
        promise6Copy();
        promise6CopyRefused();
        promise7Mean();
        promise8Text();
        promise9Put();
    }

    private void terms() {
        e.terms("ROWS 0 .. 5 are rows of 0 to 40 ints");
        e.range("row(v, 1)", 0, 5, (x, r) -> x.row(r, 1));
        e.gives("row(0, 0)", x -> x.row(0, 0), 0);
        e.gives("row(0, 40)", x -> x.row(0, 40), 40);
        e.bad("row(0, 41)", x -> x.row(0, 41));
        e.terms("TEXTS 0 .. 3 rows of 0 to 60 bytes");
        e.range("text(v, 1)", 0, 3, (x, t) -> x.text(t, 1));
        e.gives("text(0, 0)", x -> x.text(0, 0), 0);
        e.gives("text(0, 60)", x -> x.text(0, 60), 60);
        e.bad("text(0, 61)", x -> x.text(0, 61));
        e.terms("or missing (at first).");
        e.from(ShadowNight::new);
        for (int r = 0; r <= 5; r++) {
            int row = r;
            e.finds(NOTHING, "ROW " + r, x -> x.at(row, 0));
        }
        for (int t = 0; t <= 3; t++) {
            int text = t;
            e.finds(NOTHING, "TEXT " + t, x -> x.fault(text));
        }
    }

    private void promise1NewObject() {
        e.promise(1, "No ROWS, TEXTS, HIDES, MOMENTS, signs");
        e.from(ShadowNight::new);
        for (int what = 0; what <= 6; what++) {
            int counted = what;
            e.leaves("count(" + what + ")", x -> x.count(counted), 0);
        }
        e.bad("told(0, 0)", x -> x.told(0, 0));
        for (int k = 0; k <= 7; k++) {
            int hide = k;
            e.finds(NOTHING, "about(" + k + ", 0)", x -> x.about(hide, 0));
        }
        e.gives("clear()", x -> x.clear(), ShadowNight.NONE);
        e.promise(1, "THE LAMP 30, 2");
        e.from(ShadowNight::new);
        e.fraction("soft at 20", x -> x.hide(0, 7, 1, 1) * x.shadow(0, 20, 0, 3), 1, 4, 1);
        e.fraction("wide at 29", x -> x.hide(0, 7, 1, 1) * x.shadow(0, 29, 0, 0), 1, 210, 1);
        e.gives("z 30", x -> x.hide(0, 7, 1, 1) * x.shadow(0, 30, 0, 0), ShadowNight.BAD);
        e.promise(1, "THE STORY without scenes.");
        e.from(ShadowNight::new);
        e.gives("count(3)", x -> x.count(3), 0);
        e.bad("scene(0, 0)", x -> x.scene(0, 0));
        e.gives("hands()", x -> x.hands(), 0);
        e.gives("good(0)", x -> x.good(0), 1);
    }

    private void promise2Row() {
        e.promise(2, "A ROW is there with n ints 0: n.");
        e.gives("row(4, 3) that was missing", x -> x.row(4, 3), 3);
        e.gives("count(0) behind it", x -> x.row(4, 3) + 10 * x.count(0), 53);
        e.tells("at its end", x -> x.row(4, 40) > 0 ? x.at(4, 39) : 0, 0);
        e.tells("anew, longer: all are 0", x -> x.row(0, 4) > 0 ? x.at(0, 1) : 0, 0);
        e.tells("anew, as long: all are 0", x -> x.row(0, 3) > 0 ? x.at(0, 2) : 0, 0);
        e.gives("anew, empty", x -> x.row(0, 0), 0);
        e.gives("anew, shorter: what was behind is gone", x -> x.row(0, 2) + x.at(0, 2), 2 + ShadowNight.FINDING);
        e.promise(2, "BAD: also n above 40");
        e.bad("row(0, 41)", x -> x.row(0, 41));
        e.bad("row(4, 41) that is missing", x -> x.row(4, 41));
        e.bad("row(0, the greatest)", x -> x.row(0, MOST));
        e.range("row(v, 40)", 0, 5, (x, r) -> x.row(r, 40));
        e.promise(2, "SIZE: below 0.");
        e.finds(SIZE, "row(0, -1)", x -> x.row(0, -1));
        e.finds(SIZE, "row(4, -1) that is missing", x -> x.row(4, -1));
        e.finds(SIZE, "row(0, the least)", x -> x.row(0, LEAST));
        e.bad("BAD ahead of SIZE", x -> x.row(6, -1));
        e.bad("BAD ahead of SIZE", x -> x.row(-1, LEAST));
    }

    private void promise3Lay() {
        e.promise(3, "Place i of a ROW is v: what it was, told by asked(): 1.");
        e.tells("lay(0, 0, 9)", x -> x.lay(0, 0, 9), 5);
        e.tells("lay(0, 2, 9) at the end", x -> x.lay(0, 2, 9), 7);
        e.tells("the least int", x -> x.lay(0, 0, LEAST) + x.lay(0, 0, MOST) - 1, LEAST);
        e.tells("the greatest int", x -> x.lay(0, 0, MOST) + x.lay(0, 0, 0) - 1, MOST);
        e.tells("place 39 of 40", x -> x.lay(2, 39, 8) + x.at(2, 39) - 1, 8);
        e.tells("no other place", x -> x.lay(0, 0, 9) + x.at(0, 1) - 1, -6);
        e.promise(3, "BAD");
        e.from(Furnished::allThere);
        e.range("lay(v, 0, 9)", 0, 5, (x, r) -> x.lay(r, 0, 9));
        e.bad("BAD ahead of BEYOND", x -> x.lay(6, -1, 9));
        e.promise(3, "NOTHING");
        e.finds(NOTHING, "lay(4, 0, 9)", x -> x.lay(4, 0, 9));
        e.finds(NOTHING, "NOTHING ahead of BEYOND", x -> x.lay(5, -1, 9));
        e.finds(NOTHING, "NOTHING ahead of BEYOND", x -> x.lay(5, MOST, 9));
        e.promise(3, "BEYOND");
        e.rangeFinds(BEYOND, "lay(0, v, 9) of 3", 0, 2, (x, i) -> x.lay(0, i, 9));
        e.rangeFinds(BEYOND, "lay(2, v, 9) of 40", 0, 39, (x, i) -> x.lay(2, i, 9));
        e.finds(BEYOND, "lay(1, 0, 9) of none", x -> x.lay(1, 0, 9));
    }

    private void promise4At() {
        e.promise(4, "Place i of a ROW, told by asked(): 1.");
        e.tells("at(0, 0)", x -> x.at(0, 0), 5);
        e.tells("at(0, 2), the end", x -> x.at(0, 2), 7);
        e.tells("at(2, 39), the end of 40", x -> x.at(2, 39), 0);
        e.promise(4, "BAD");
        e.from(Furnished::allThere);
        e.range("at(v, 0)", 0, 5, (x, r) -> x.at(r, 0));
        e.bad("BAD ahead of BEYOND", x -> x.at(6, -1));
        e.promise(4, "NOTHING");
        e.finds(NOTHING, "at(4, 0)", x -> x.at(4, 0));
        e.finds(NOTHING, "NOTHING ahead of BEYOND", x -> x.at(5, -1));
        e.promise(4, "BEYOND");
        e.rangeFinds(BEYOND, "at(0, v) of 3", 0, 2, (x, i) -> x.at(0, i));
        e.rangeFinds(BEYOND, "at(2, v) of 40", 0, 39, (x, i) -> x.at(2, i));
        e.finds(BEYOND, "at(1, 0) of none", x -> x.at(1, 0));
    }

    private void promise5Tear() {
        e.promise(5, "A ROW is missing: 1.");
        e.gives("tear(0)", x -> x.tear(0), 1);
        e.gives("tear(1), an empty one", x -> x.tear(1), 1);
        e.gives("count(0) behind it", x -> x.tear(2) + 10 * x.count(0), 31);
        e.gives("there again, empty of what it had", x -> x.tear(0) + x.row(0, 3) + x.lay(0, 0, 1), 5, 0);
        e.promise(5, "BAD");
        e.from(Furnished::allThere);
        e.range("tear(v)", 0, 5, (x, r) -> x.tear(r));
        e.promise(5, "NOTHING");
        e.finds(NOTHING, "tear(4)", x -> x.tear(4));
        e.finds(NOTHING, "tear(5)", x -> x.tear(5));
        e.gives("twice", x -> x.tear(0) + x.tear(0), 1 + ShadowNight.FINDING);
    }

    private static int third(ShadowNight x, int r) {
        return 100 * Expect.look(x, r, 0) + 10 * Expect.look(x, r, 1) + Expect.look(x, r, 2);
    }

    private void promise6Copy() {
        e.promise(6, "n places of a ROW, from one on, come to those of another one (perhaps itself) from one on, as if"
            + " taken ahead: 1.");
        e.from(() -> Furnished.laying(1, 2, 3));
        e.gives("copy(0, 0, 0, 1, 2)", x -> x.copy(0, 0, 0, 1, 2), 1);
        e.gives("forth in itself", x -> x.copy(0, 0, 0, 1, 2) * third(x, 0), 112);
        e.gives("back in itself", x -> x.copy(0, 1, 0, 0, 2) * third(x, 0), 233);
        e.gives("onto itself, all", x -> x.copy(0, 0, 0, 0, 3) * third(x, 0), 123);
        e.gives("the last one to the first place", x -> x.copy(0, 2, 0, 0, 1) * third(x, 0), 323);
        e.gives("to another one's end", x -> x.copy(0, 0, 2, 37, 3) * Expect.look(x, 2, 39), 3);
        e.gives("40 places", x -> x.lay(2, 39, 4) * x.row(4, 40) * x.copy(2, 0, 4, 0, 40) * Expect.look(x, 4, 39), 160);
        e.leaves("none", x -> x.copy(0, 0, 2, 0, 0), 1);
        e.leaves("none, behind the ends", x -> x.copy(0, 3, 2, 40, 0), 1);
        e.leaves("none, of an empty one to itself", x -> x.copy(1, 0, 1, 0, 0), 1);
    }

    private void promise6CopyRefused() {
        e.promise(6, "BAD");
        e.from(Furnished::allThere);
        e.range("copy(v, 0, 0, 0, 0)", 0, 5, (x, r) -> x.copy(r, 0, 0, 0, 0));
        e.range("copy(0, 0, v, 0, 0)", 0, 5, (x, r) -> x.copy(0, 0, r, 0, 0));
        e.bad("BAD ahead of SIZE", x -> x.copy(6, 0, 0, 0, -1));
        e.bad("BAD ahead of BEYOND", x -> x.copy(0, 0, -1, 99, 99));
        e.promise(6, "SIZE: n below 0");
        e.finds(SIZE, "n -1", x -> x.copy(0, 0, 0, 0, -1));
        e.finds(SIZE, "n the least", x -> x.copy(0, 0, 0, 0, LEAST));
        e.finds(SIZE, "SIZE ahead of NOTHING", x -> x.copy(4, 0, 5, 0, -1));
        e.finds(SIZE, "SIZE ahead of BEYOND", x -> x.copy(0, 4, 0, -1, -1));
        e.promise(6, "NOTHING: either");
        e.finds(NOTHING, "the one", x -> x.copy(4, 0, 0, 0, 0));
        e.finds(NOTHING, "the other", x -> x.copy(0, 0, 4, 0, 0));
        e.finds(NOTHING, "both", x -> x.copy(5, 0, 4, 0, 0));
        e.finds(NOTHING, "NOTHING ahead of BEYOND", x -> x.copy(0, 99, 4, 99, 99));
        e.promise(6, "BEYOND: not so many there.");
        e.rangeFinds(BEYOND, "copy(0, v, 2, 0, 1) of 3", 0, 2, (x, i) -> x.copy(0, i, 2, 0, 1));
        e.rangeFinds(BEYOND, "copy(2, 0, 0, v, 1) to 3", 0, 2, (x, i) -> x.copy(2, 0, 0, i, 1));
        e.rangeFinds(BEYOND, "copy(2, v, 2, 0, 0) of 40", 0, 40, (x, i) -> x.copy(2, i, 2, 0, 0));
        e.rangeFinds(BEYOND, "copy(2, 0, 2, v, 0) to 40", 0, 40, (x, i) -> x.copy(2, 0, 2, i, 0));
        e.finds(BEYOND, "4 of 3", x -> x.copy(0, 0, 2, 0, 4));
        e.finds(BEYOND, "4 to 3", x -> x.copy(2, 0, 0, 0, 4));
        e.finds(BEYOND, "41 of 40", x -> x.copy(2, 0, 2, 0, 41));
        e.finds(BEYOND, "the most", x -> x.copy(2, 1, 2, 1, MOST));
        e.finds(BEYOND, "1 of none", x -> x.copy(1, 0, 2, 0, 1));
        e.finds(BEYOND, "1 to none", x -> x.copy(2, 0, 1, 0, 1));
    }

    private static ShadowNight forty(int v) {
        int[] values = new int[40];
        java.util.Arrays.fill(values, v);
        return Furnished.laying(values);
    }

    private void promise7Mean() {
        e.promise(7, "The mean of a ROW's ints, cut, told by asked(): 1.");
        e.tells("of 5, -6, 7", x -> x.mean(0), 2);
        e.from(() -> Furnished.laying(-8));
        e.tells("of one", x -> x.mean(0), -8);
        e.from(() -> Furnished.laying(-3, -4));
        e.tells("of -3, -4", x -> x.mean(0), -3);
        e.from(() -> Furnished.laying(3, 4));
        e.tells("of 3, 4", x -> x.mean(0), 3);
        e.from(() -> Furnished.laying(-1, 0));
        e.tells("of -1, 0", x -> x.mean(0), 0);
        e.from(() -> Furnished.laying(LEAST, MOST));
        e.tells("of the least and the greatest", x -> x.mean(0), 0);
        e.from(() -> forty(MOST));
        e.tells("of 40 greatest", x -> x.mean(0), MOST);
        e.from(() -> forty(LEAST));
        e.tells("of 40 least", x -> x.mean(0), LEAST);
        e.promise(7, "BAD");
        e.from(() -> {
            ShadowNight x = Furnished.allThere();
            x.row(1, 1);
            return x;
        });
        e.range("mean(v)", 0, 5, (x, r) -> x.mean(r));
        e.promise(7, "NOTHING");
        e.finds(NOTHING, "mean(4)", x -> x.mean(4));
        e.finds(NOTHING, "mean(5)", x -> x.mean(5));
        e.promise(7, "NOUGHT");
        e.finds(NOUGHT, "mean(1) of none", x -> x.mean(1));
    }

    private void promise8Text() {
        e.promise(8, "A TEXT is there with n blanks: n.");
        e.gives("text(3, 5) that was missing", x -> x.text(3, 5), 5);
        e.gives("count(1) behind it", x -> x.text(3, 5) + 10 * x.count(1), 45);
        e.gives("its last byte", x -> x.text(3, 60) > 0 ? x.put(3, 59, 1) : 0, 1032);
        e.gives("anew: all are blanks", x -> x.text(0, 60) > 0 ? x.put(0, 0, 1) : 0, 1032);
        e.gives("anew, shorter", x -> x.text(0, 1) + x.put(0, 1, 1), 1 + ShadowNight.FINDING);
        e.gives("anew, empty", x -> x.text(0, 0), 0);
        e.promise(8, "BAD: also n above 60");
        e.bad("text(0, 61)", x -> x.text(0, 61));
        e.bad("text(3, 61) that is missing", x -> x.text(3, 61));
        e.bad("text(0, the greatest)", x -> x.text(0, MOST));
        e.range("text(v, 60)", 0, 3, (x, t) -> x.text(t, 60));
        e.promise(8, "SIZE: below 0.");
        e.finds(SIZE, "text(0, -1)", x -> x.text(0, -1));
        e.finds(SIZE, "text(3, -1) that is missing", x -> x.text(3, -1));
        e.finds(SIZE, "text(0, the least)", x -> x.text(0, LEAST));
        e.bad("BAD ahead of SIZE", x -> x.text(4, -1));
        e.bad("BAD ahead of SIZE", x -> x.text(-1, LEAST));
    }

    private void promise9Put() {
        e.promise(9, "Byte i of a TEXT is v, cut to a byte: what it was, and 1000 more.");
        int[][] bytes = {{0, 1000}, {1, 1001}, {127, 1127}, {128, 872}, {255, 999}, {256, 1000}, {-1, 999}, {-128, 872},
            {-129, 1127}, {383, 1127}, {384, 872}, {MOST, 999}, {LEAST, 1000}};
        for (int[] one : bytes) {
            e.gives("what was put: " + one[0], x -> x.put(2, 59, one[0]) > 0 ? x.put(2, 59, 0) : 0, one[1]);
        }
        e.gives("a blank", x -> x.put(2, 0, 0), 1032);
        e.gives("no other byte", x -> x.put(2, 0, 0) > 0 ? x.put(2, 1, 0) : 0, 1032);
        e.promise(9, "BAD");
        e.from(() -> {
            ShadowNight x = Furnished.allThere();
            x.text(1, 1);
            return x;
        });
        e.range("put(v, 0, 9)", 0, 3, (x, t) -> x.put(t, 0, 9));
        e.bad("BAD ahead of BEYOND", x -> x.put(4, -1, 9));
        e.promise(9, "NOTHING");
        e.finds(NOTHING, "put(3, 0, 9)", x -> x.put(3, 0, 9));
        e.finds(NOTHING, "NOTHING ahead of BEYOND", x -> x.put(3, -1, 9));
        e.promise(9, "BEYOND");
        e.rangeFinds(BEYOND, "put(2, v, 9) of 60", 0, 59, (x, i) -> x.put(2, i, 9));
        e.rangeFinds(BEYOND, "put(0, v, 9) of 32", 0, 31, (x, i) -> x.put(0, i, 9));
        e.finds(BEYOND, "put(1, 0, 9) of none", x -> x.put(1, 0, 9));
    }
}
