/** Promises 10 to 16: HIDES, THE LAMP and shadows. */
final class EdgesOfHides {
    private static final int NOTHING = Edges.NOTHING, NONE = ShadowNight.NONE;
    private final Edges e;

    EdgesOfHides(Edges edges) {
        e = edges;
    }

    void look() {
        termsHides();
        termsLamp();
        termsShadow();
        termsCovers();
        promise10Hide();
        promise11Drop();
        promise12Lamp();
        promise13About();
        promise14Shadow();
        promise14ShadowRefused();
        promise15Covers();
        promise16Place();
        promise16PlaceRefused();
    }

    private void termsHides() {
        e.terms("HIDES 0 .. 7 (missing at first) have a WIDTH, a HEIGHT (1 .. 60) and an OUTLINE: 16 cells of 4 by 4"
            + " (bits; cell 4 y and x; not none).");
        e.range("hide(v, 1, 1, 1)", 0, 7, (x, k) -> x.hide(k, 1, 1, 1));
        e.range("hide(0, v, 1, 1)", 1, 60, (x, width) -> x.hide(0, width, 1, 1));
        e.range("hide(0, 1, v, 1)", 1, 60, (x, height) -> x.hide(0, 1, height, 1));
        e.range("hide(0, 1, 1, v)", 1, 65535, (x, outline) -> x.hide(0, 1, 1, outline));
        e.from(ShadowNight::new);
        for (int k = 0; k <= 7; k++) {
            int hide = k;
            e.finds(NOTHING, "HIDE " + k + " at first", x -> x.drop(hide));
        }
        e.terms("TURNED its cells of each line stand the other way round.");
        for (int cell = 0; cell < 16; cell++) {
            int outline = 1 << cell;
            int turned = 1 << (cell - cell % 4 + 3 - cell % 4);
            e.tells("cell " + cell, x -> x.hide(0, 1, 1, outline) * x.about(0, 3), turned);
        }
        e.tells("all cells", x -> x.about(1, 3), 65535);
    }

    private void termsLamp() {
        e.terms("THE LAMP hangs d (2 .. 60; 30 at first) ahead of THE CLOTH and is g (0 .. 9; 2 at first) great.");
        e.range("lamp(v, 0)", 2, 60, (x, d) -> x.lamp(d, 0));
        e.range("lamp(2, v)", 0, 9, (x, g) -> x.lamp(2, g));
        e.from(ShadowNight::new);
        e.fraction("soft at z 10 at first", x -> x.hide(0, 1, 1, 1) * x.shadow(0, 10, 0, 3), 1, 1, 1);
        e.fraction("wide at z 29 at first", x -> x.hide(0, 1, 1, 1) * x.shadow(0, 29, 0, 0), 1, 30, 1);
    }

    private void termsShadow() {
        e.terms("HELD at z (0 .. d - 1) from THE CLOTH, x (-99 .. 99) from its middle, the shadow of a HIDE is WIDTH times"
            + " d by (d less z) wide, its middle x times d by (d less z) off, its edge g times z by (d less z) soft.");
        e.range("shadow(0, v, 0, 0)", 0, 19, (x, z) -> x.shadow(0, z, 0, 0));
        e.range("shadow(0, 0, v, 0)", -99, 99, (x, off) -> x.shadow(0, 0, off, 0));
        e.fraction("wide: 11 times 20 by 13", x -> x.shadow(0, 7, 5, 0), 1, 220, 13);
        e.fraction("off: -99 times 20 by 1", x -> x.shadow(0, 19, -99, 2), 1, -1980, 1);
        e.fraction("off: 99 times 20 by 20", x -> x.shadow(0, 0, 99, 2), 1, 99, 1);
        e.fraction("soft: 3 times 19 by 1", x -> x.shadow(0, 19, 5, 3), 1, 57, 1);
        e.fraction("soft: 3 times 7 by 13", x -> x.shadow(0, 7, 5, 3), 1, 21, 13);
    }

    private void termsCovers() {
        e.terms("One shadow COVERS another one, if its ends are no less far out on both sides.");
        // at THE CLOTH: HIDE 0 is 11 wide, HIDE 7 is 21 wide: ends 5.5 and 10.5 from the middles
        e.leaves("just as far out at the right", x -> x.covers(7, 0, 0, 0, 0, 5), 1);
        e.leaves("less far out at the right", x -> x.covers(7, 0, 0, 0, 0, 6), 0);
        e.leaves("just as far out at the left", x -> x.covers(7, 0, 0, 0, 0, -5), 1);
        e.leaves("less far out at the left", x -> x.covers(7, 0, 0, 0, 0, -6), 0);
        e.leaves("the small one the great one", x -> x.covers(0, 0, 0, 7, 0, 0), 0);
        e.leaves("far beside", x -> x.covers(7, 0, 99, 0, 0, -99), 0);
        // HIDE 2 is 1 wide: at z 19 its shadow is 20 wide, at z 18 just 10
        e.leaves("wider by its place", x -> x.covers(2, 19, 0, 0, 0, 0), 1);
        e.leaves("not as wide by its place", x -> x.covers(2, 18, 0, 0, 0, 0), 0);
        e.leaves("off by its place: ends 10 and 30", x -> x.covers(2, 19, 1, 0, 0, 16), 1);
        e.leaves("off by its place: ends 10 and 30", x -> x.covers(2, 19, 1, 0, 0, 15), 0);
        e.leaves("off by its place: ends 10 and 30", x -> x.covers(2, 19, 1, 0, 0, 24), 1);
        e.leaves("off by its place: ends 10 and 30", x -> x.covers(2, 19, 1, 0, 0, 25), 0);
    }

    private void promise10Hide() {
        e.promise(10, "A HIDE (anew): how many cells it has.");
        e.gives("one cell", x -> x.hide(3, 1, 1, 0x8000), 1);
        e.gives("16 cells", x -> x.hide(3, 1, 1, 0xFFFF), 16);
        e.gives("count(2) behind it", x -> x.hide(3, 1, 1, 3) + 10 * x.count(2), 52);
        e.gives("anew", x -> x.hide(0, 60, 1, 0x0111), 3);
        e.gives("anew: as many HIDES", x -> x.hide(0, 60, 1, 3) + 10 * x.count(2), 42);
        e.tells("anew: WIDTH", x -> x.hide(0, 60, 59, 7) > 0 ? x.about(0, 0) : 0, 60);
        e.tells("anew: HEIGHT", x -> x.hide(0, 60, 59, 7) > 0 ? x.about(0, 1) : 0, 59);
        e.tells("anew: OUTLINE", x -> x.hide(0, 60, 59, 7) > 0 ? x.about(0, 2) : 0, 7);
        e.promise(10, "BAD: also an OUTLINE not 1 .. 65535.");
        e.range("hide(3, 1, 1, v)", 1, 65535, (x, outline) -> x.hide(3, 1, 1, outline));
        e.bad("bits above the 16 cells", x -> x.hide(0, 1, 1, 0x10001));
        e.range("hide(v, 60, 60, 65535)", 0, 7, (x, k) -> x.hide(k, 60, 60, 65535));
        e.range("hide(7, v, 60, 9)", 1, 60, (x, width) -> x.hide(7, width, 60, 9));
        e.range("hide(7, 60, v, 9)", 1, 60, (x, height) -> x.hide(7, 60, height, 9));
    }

    private void promise11Drop() {
        e.promise(11, "A HIDE is missing: 1.");
        e.gives("drop(7)", x -> x.drop(7), 1);
        e.gives("count(2) behind it", x -> x.drop(0) + 10 * x.count(2), 31);
        e.gives("MOMENTS stay", x -> x.drop(0) + 10 * x.count(5), 81);
        e.gives("there again", x -> x.drop(0) + x.hide(0, 1, 1, 3), 3);
        e.promise(11, "BAD");
        e.from(Furnished::allThere);
        e.range("drop(v)", 0, 7, (x, k) -> x.drop(k));
        e.promise(11, "NOTHING.");
        e.finds(NOTHING, "drop(3)", x -> x.drop(3));
        e.finds(NOTHING, "drop(6)", x -> x.drop(6));
        e.gives("twice", x -> x.drop(0) + x.drop(0), 1 + ShadowNight.FINDING);
    }

    private void promise12Lamp() {
        e.promise(12, "THE LAMP: 1.");
        e.gives("lamp(2, 0)", x -> x.lamp(2, 0), 1);
        e.gives("lamp(60, 9)", x -> x.lamp(60, 9), 1);
        e.fraction("as near as can be", x -> x.lamp(2, 0) * x.shadow(0, 1, 0, 0), 1, 22, 1);
        e.fraction("as far as can be", x -> x.lamp(60, 9) * x.shadow(0, 59, 0, 3), 1, 531, 1);
        e.fraction("the fraction told ahead stays", x -> x.lamp(60, 9), 1, 55, 2);
        e.promise(12, "BAD.");
        e.range("lamp(v, 9)", 2, 60, (x, d) -> x.lamp(d, 9));
        e.range("lamp(60, v)", 0, 9, (x, g) -> x.lamp(60, g));
    }

    private void promise13About() {
        e.promise(13, "Of a HIDE: 0 WIDTH, 1 HEIGHT, 2 OUTLINE, 3 OUTLINE TURNED, told by asked(): 1.");
        int[] due = {21, 22, 0x8421, 0x1248};
        for (int what = 0; what <= 3; what++) {
            int asked = what;
            e.tells("about(7, " + what + ")", x -> x.about(7, asked), due[what]);
        }
        e.promise(13, "BAD");
        e.from(Furnished::allThere);
        e.range("about(v, 0)", 0, 7, (x, k) -> x.about(k, 0));
        e.range("about(7, v)", 0, 3, (x, what) -> x.about(7, what));
        e.from(Furnished::night);
        e.bad("BAD ahead of NOTHING", x -> x.about(3, 4));
        e.bad("BAD ahead of NOTHING", x -> x.about(3, -1));
        e.promise(13, "NOTHING.");
        e.finds(NOTHING, "about(3, 0)", x -> x.about(3, 0));
        e.finds(NOTHING, "about(6, 3)", x -> x.about(6, 3));
    }

    private void promise14Shadow() {
        e.promise(14, "Of the shadow of a HIDE HELD at z, x: 0 how wide, 1 how high, 2 how far off its middle, 3 how soft,"
            + " told by upper(), lower(): 1.");
        e.fraction("how wide", x -> x.shadow(0, 15, -7, 0), 1, 44, 1);
        e.fraction("how high", x -> x.shadow(0, 15, -7, 1), 1, 48, 1);
        e.fraction("how far off", x -> x.shadow(0, 15, -7, 2), 1, -28, 1);
        e.fraction("how soft", x -> x.shadow(0, 15, -7, 3), 1, 9, 1);
        e.fraction("at THE CLOTH: as wide as it is", x -> x.shadow(0, 0, 99, 0), 1, 11, 1);
        e.fraction("at THE CLOTH: as high as it is", x -> x.shadow(0, 0, 99, 1), 1, 12, 1);
        e.fraction("at THE CLOTH: sharp", x -> x.shadow(0, 0, 99, 3), 1, 0, 1);
        e.fraction("in the middle: not off", x -> x.shadow(0, 7, 0, 2), 1, 0, 1);
        e.fraction("a lamp without greatness: sharp", x -> x.lamp(20, 0) * x.shadow(0, 7, 0, 3), 1, 0, 1);
        e.fraction("the greatest there is", x -> x.lamp(60, 9) * x.shadow(1, 59, 99, 2), 1, 5940, 1);
        e.gives("asked() stays", x -> x.shadow(0, 15, -7, 0), 1, -6);
    }

    private void promise14ShadowRefused() {
        e.promise(14, "BAD: also z");
        e.range("shadow(0, v, 0, 0)", 0, 19, (x, z) -> x.shadow(0, z, 0, 0));
        e.from(Furnished::allThere);
        e.range("shadow(v, 0, 0, 0)", 0, 7, (x, k) -> x.shadow(k, 0, 0, 0));
        e.range("shadow(0, 0, v, 2)", -99, 99, (x, off) -> x.shadow(0, 0, off, 2));
        e.range("shadow(0, 0, 0, v)", 0, 3, (x, what) -> x.shadow(0, 0, 0, what));
        e.from(Furnished::night);
        e.bad("z, ahead of NOTHING", x -> x.shadow(3, 20, 0, 0));
        e.bad("x, ahead of NOTHING", x -> x.shadow(3, 0, 100, 0));
        e.bad("what, ahead of NOTHING", x -> x.shadow(3, 0, 0, 4));
        e.from(() -> {
            ShadowNight x = Furnished.night();
            x.lamp(60, 3);
            return x;
        });
        e.range("by a lamp that hangs 60 ahead", 0, 59, (x, z) -> x.shadow(0, z, 0, 0));
        e.from(() -> {
            ShadowNight x = Furnished.night();
            x.lamp(2, 3);
            return x;
        });
        e.range("by a lamp that hangs 2 ahead", 0, 1, (x, z) -> x.shadow(0, z, 0, 0));
        e.promise(14, "NOTHING.");
        e.finds(NOTHING, "shadow(3, 0, 0, 0)", x -> x.shadow(3, 0, 0, 0));
        e.finds(NOTHING, "shadow(6, 19, -99, 3)", x -> x.shadow(6, 19, -99, 3));
    }

    private void promise15Covers() {
        e.promise(15, "Whether the shadow of a HIDE at z, x COVERS (in width) that of another one (perhaps itself): 1, 0.");
        e.leaves("itself, at the same place", x -> x.covers(0, 7, 3, 0, 7, 3), 1);
        e.leaves("itself, nearer to THE LAMP", x -> x.covers(0, 8, 0, 0, 7, 0), 1);
        e.leaves("itself, further from THE LAMP", x -> x.covers(0, 7, 0, 0, 8, 0), 0);
        e.leaves("itself, one beside", x -> x.covers(0, 7, 0, 0, 7, 1), 0);
        e.gives("in width alone: a low one", x -> x.hide(3, 60, 1, 1) * x.covers(3, 0, 0, 1, 0, 0), 1);
        e.promise(15, "BAD");
        e.from(Furnished::allThere);
        e.range("covers(v, 0, 0, 1, 0, 0)", 0, 7, (x, k) -> x.covers(k, 0, 0, 1, 0, 0));
        e.range("covers(0, v, 0, 1, 0, 0)", 0, 19, (x, z) -> x.covers(0, z, 0, 1, 0, 0));
        e.range("covers(0, 0, v, 1, 0, 0)", -99, 99, (x, off) -> x.covers(0, 0, off, 1, 0, 0));
        e.range("covers(0, 0, 0, v, 0, 0)", 0, 7, (x, k) -> x.covers(0, 0, 0, k, 0, 0));
        e.range("covers(0, 0, 0, 1, v, 0)", 0, 19, (x, w) -> x.covers(0, 0, 0, 1, w, 0));
        e.range("covers(0, 0, 0, 1, 0, v)", -99, 99, (x, y) -> x.covers(0, 0, 0, 1, 0, y));
        e.from(Furnished::night);
        e.bad("z, ahead of NOTHING", x -> x.covers(3, 20, 0, 3, 0, 0));
        e.bad("y, ahead of NOTHING", x -> x.covers(3, 0, 0, 3, 0, 100));
        e.bad("the other, ahead of NOTHING", x -> x.covers(3, 0, 0, 8, 0, 0));
        e.bad("the one, ahead of NOTHING", x -> x.covers(-1, 0, 0, 3, 0, 0));
        e.promise(15, "NOTHING: either.");
        e.finds(NOTHING, "the one", x -> x.covers(3, 0, 0, 0, 0, 0));
        e.finds(NOTHING, "the other", x -> x.covers(0, 0, 0, 3, 0, 0));
        e.finds(NOTHING, "both: once", x -> x.covers(3, 0, 0, 4, 0, 0));
        e.finds(NOTHING, "both, the same", x -> x.covers(3, 0, 0, 3, 0, 0));
    }

    private void promise16Place() {
        e.promise(16, "At which z the shadow of a HIDE is s (1 .. 9999) wide, told by upper(), lower(): 1, if it is a"
            + " whole number, else 0.");
        e.fraction("as wide as it is", x -> x.place(0, 11), 1, 0, 1);
        e.fraction("one wider", x -> x.place(0, 12), 0, 5, 3);
        e.fraction("double", x -> x.place(0, 22), 1, 10, 1);
        e.fraction("s 220, d - 1", x -> x.place(0, 220), 1, 19, 1);
        e.fraction("s 221, further than d - 1", x -> x.place(0, 221), 0, 4200, 221);
        e.fraction("s 9999", x -> x.place(0, 9999), 0, 18160, 909);
        e.fraction("s 1 of a WIDTH 1", x -> x.place(2, 1), 1, 0, 1);
        e.fraction("s 9999 of a WIDTH 1", x -> x.place(2, 9999), 0, 199960, 9999);
        e.range("place(2, v)", 1, 9999, (x, s) -> x.place(2, s));
        e.gives("asked() stays", x -> x.place(0, 22), 1, -6);
    }

    private void promise16PlaceRefused() {
        e.promise(16, "NONE: at none (s below WIDTH).");
        e.leaves("one less than WIDTH", x -> x.place(0, 10), NONE);
        e.leaves("s 1 of WIDTH 11", x -> x.place(0, 1), NONE);
        e.leaves("s 59 of WIDTH 60", x -> x.place(1, 59), NONE);
        e.fraction("s 60 of WIDTH 60", x -> x.place(1, 60), 1, 0, 1);
        e.promise(16, "BAD");
        e.from(Furnished::allThere);
        e.range("place(v, 9999)", 0, 7, (x, k) -> x.place(k, 9999));
        e.bad("s 0, ahead of NONE", x -> x.place(1, 0));
        e.from(Furnished::night);
        e.bad("s 0, ahead of NOTHING", x -> x.place(3, 0));
        e.bad("s 10000, ahead of NOTHING", x -> x.place(3, 10000));
        e.promise(16, "NOTHING.");
        e.finds(NOTHING, "place(3, 1)", x -> x.place(3, 1));
        e.finds(NOTHING, "place(6, 9999)", x -> x.place(6, 9999));
    }
}
