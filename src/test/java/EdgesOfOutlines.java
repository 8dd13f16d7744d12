/** Promises 36 to 38: outlines that are APART, cells that do not MATTER. */
final class EdgesOfOutlines {
    private static final int NOTHING = Edges.NOTHING, NONE = ShadowNight.NONE;
    private final Edges e;

    EdgesOfOutlines(Edges edges) {
        e = edges;
    }

    void look() {
        terms();
        promise36Apart();
        promise37LeastApart();
        promise38Matters();
    }

    private void terms() {
        e.terms("APART are outlines by cells that just one has, of both ways that one of them can be (as it is, TURNED)"
            + " the fewer.");
        e.from(() -> Furnished.outlines(0x0003, 0x000C, 0x0007, 0xFFFF, 0x1000));
        e.leaves("TURNED they are alike", x -> x.apart(0, 1), 0);
        e.leaves("fewer as it is", x -> x.apart(0, 2), 1);
        e.leaves("fewer TURNED", x -> x.apart(1, 2), 1);
        e.leaves("alike both ways", x -> x.apart(0, 3), 14);
        e.leaves("not turned upside down", x -> x.apart(0, 4), 3);
        e.from(() -> Furnished.outlines(0x5A5A, 0xA5A5, 0x00FF, 0xFF00));
        e.leaves("TURNED just the other's cells", x -> x.apart(0, 1), 0);
        e.leaves("as far APART as can be", x -> x.apart(2, 3), 16);
        e.terms("A cell of a HIDE that has it does not MATTER, if without it no two HIDES are less APART than the least of"
            + " all was, and it is not its last cell.");
        e.from(() -> Furnished.outlines(0b0111, 0b0001, 0xFF00));
        e.leaves("without cell 0 they are 3 APART, without 1 or 2 just 1", x -> x.matters(0), 0b0001);
        e.leaves("its last cell", x -> x.matters(1), 0);
        e.leaves("a HIDE that is far from all may come nearer", x -> x.matters(2), 0xFF00);
        e.from(() -> Furnished.outlines(0b0111, 0b0111));
        e.leaves("the least was 0: nothing is less", x -> x.matters(0), 0b0111);
        // HIDES 1, 2 are 1 APART; HIDE 0 is 2 APART from HIDE 1 and just 1 without cell 1 or cell 2
        e.from(() -> Furnished.outlines(0b0111, 0b0001, 0b1000_0001));
        e.leaves("just as far APART as the least was", x -> x.matters(0), 0b0111);
    }

    private void promise36Apart() {
        e.promise(36, "How far two HIDES are APART.");
        e.leaves("apart(0, 7)", x -> x.apart(0, 7), 6);
        e.leaves("apart(7, 0)", x -> x.apart(7, 0), 6);
        e.leaves("of itself", x -> x.apart(7, 7), 0);
        e.promise(36, "BAD");
        e.from(Furnished::allThere);
        e.range("apart(v, 0)", 0, 7, (x, k) -> x.apart(k, 0));
        e.range("apart(0, v)", 0, 7, (x, k) -> x.apart(0, k));
        e.from(Furnished::night);
        e.bad("ahead of NOTHING", x -> x.apart(3, 8));
        e.bad("ahead of NOTHING", x -> x.apart(-1, 3));
        e.promise(36, "NOTHING: either.");
        e.finds(NOTHING, "the one", x -> x.apart(3, 0));
        e.finds(NOTHING, "the other", x -> x.apart(0, 3));
        e.finds(NOTHING, "both: once", x -> x.apart(3, 4));
        e.finds(NOTHING, "itself", x -> x.apart(3, 3));
    }

    private void promise37LeastApart() {
        e.promise(37, "How far any two HIDES are APART at least; the first two as 10 times one and the other by asked().");
        e.gives("of four", x -> x.leastApart(), 3, 27);
        e.from(() -> Furnished.outlines(0xF000, 0, 0, 0, 0, 0, 0, 0x000F));
        e.gives("of two, the first and the last there can be", x -> x.leastApart(), 8, 7);
        e.from(() -> Furnished.outlines(0, 0, 0, 0, 0, 0, 0xFF00, 0x00FF));
        e.gives("of the last two, as far as can be", x -> x.leastApart(), 16, 67);
        e.from(() -> Furnished.outlines(1, 1, 1, 1, 1, 1, 1, 1));
        e.gives("of alike ones the first two", x -> x.leastApart(), 0, 1);
        e.from(() -> Furnished.outlines(0x000F, 0x0F00, 0x0E00, 0x000E));
        e.gives("of alike ones the one with the first, not the nearer two", x -> x.leastApart(), 1, 3);
        e.from(() -> Furnished.outlines(0xF0F0, 0x0003, 0x0100, 0x000C));
        e.gives("TURNED", x -> x.leastApart(), 0, 13);
        e.promise(37, "NONE: fewer than two.");
        e.from(() -> Furnished.outlines(0, 0, 0, 5));
        e.leaves("one", x -> x.leastApart(), NONE);
        e.from(() -> Furnished.outlines());
        e.leaves("none", x -> x.leastApart(), NONE);
        e.from(ShadowNight::new);
        e.leaves("none at first", x -> x.leastApart(), NONE);
    }

    private void promise38Matters() {
        e.promise(38, "Cells of a HIDE (bits) that do not MATTER, each by itself.");
        e.from(() -> Furnished.outlines(0x8001, 0, 0, 0, 0));
        e.leaves("alone: no two there are", x -> x.matters(0), 0x8001);
        e.from(() -> Furnished.outlines(0, 0, 0, 0, 0, 0, 0, 0x8000));
        e.leaves("alone, of one cell", x -> x.matters(7), 0);
        e.from(() -> Furnished.outlines(0xFFFF));
        e.leaves("alone, all 16", x -> x.matters(0), 0xFFFF);
        // 4 and 2 cells, 2 APART: each of cells 0, 1 alone may go (3 APART), cells 4, 8 not (1 APART)
        e.from(() -> Furnished.outlines(0x0113, 0x0003));
        e.leaves("each by itself", x -> x.matters(0), 0x0003);
        e.from(() -> Furnished.outlines(0b1111, 0b0111));
        e.leaves("without cell 3 they are alike, without cell 0 TURNED alike", x -> x.matters(0), 0b0110);
        e.promise(38, "BAD");
        e.from(Furnished::allThere);
        e.range("matters(v)", 0, 7, (x, k) -> x.matters(k));
        e.promise(38, "NOTHING.");
        e.finds(NOTHING, "matters(3)", x -> x.matters(3));
        e.finds(NOTHING, "matters(6)", x -> x.matters(6));
    }
}
