/** Promises 32 to 35: knocks. */
final class EdgesOfKnocks {
    private static final int NOTHING = Edges.NOTHING, UNLIKE = Edges.UNLIKE, SIZE = Edges.SIZE;
    private static final int NONE = ShadowNight.NONE;
    private final Edges e;

    EdgesOfKnocks(Edges edges) {
        e = edges;
    }

    void look() {
        termsKnocks();
        termsShortest();
        promise32Knock();
        promise32KnockRefused();
        promise33Clear();
        promise34Sure();
        promise35Shortest();
        promise35ShortestRefused();
    }

    private void clear(int due, String... signs) {
        e.from(() -> Furnished.signs(signs));
        e.leaves("clear of " + java.util.Arrays.toString(signs), x -> x.clear(), due);
    }

    private void sure(int due, String... signs) {
        e.from(() -> Furnished.signs(signs));
        e.leaves("sure of " + java.util.Arrays.toString(signs), x -> x.sure(), due);
    }

    private void shortest(int due, int... often) {
        e.from(() -> Furnished.laying(often));
        e.leaves("shortest of " + java.util.Arrays.toString(often), x -> x.shortest(0), due);
    }

    private void shortestFinds(int finding, int... often) {
        e.from(() -> Furnished.laying(often));
        e.finds(finding, "shortest of " + java.util.Arrays.toString(often), x -> x.shortest(0));
    }

    private void knockFinds(int finding, int... knocks) {
        e.from(() -> Furnished.laying(knocks));
        e.finds(finding, "knock by " + java.util.Arrays.toString(knocks), x -> x.knock(0, 0));
        e.finds(finding, "knock of one that has none by " + java.util.Arrays.toString(knocks), x -> x.knock(3, 0));
    }

    private void termsKnocks() {
        e.terms("KNOCKS: signs 0 .. 7, each a row of short (0) and long (1) knocks (a ROW of 1 to 8), or none.");
        e.from(() -> Furnished.laying(0, 1));
        e.range("knock(v, 0)", 0, 7, (x, sign) -> x.knock(sign, 0));
        e.from(() -> Furnished.laying(0));
        e.gives("one", x -> x.knock(0, 0), 1);
        e.from(() -> Furnished.laying(0, 1, 0, 1, 0, 1, 0, 1));
        e.gives("eight", x -> x.knock(0, 0), 8);
        e.gives("none", x -> x.knock(0, NONE), 0);
        e.terms("CLEAR: no sign is the beginning of another one.");
        clear(NONE, "0", "10", "110", "1110", "11110", "111110", "1111110", "11111110");
        clear(6, "0", "10", "110", "1110", "11110", "111110", "01");
        clear(NONE, "00000000", "00000001");
        clear(1, "0000000", "00000001");
        e.terms("SURE: no row of knocks can be two rows of signs.");
        sure(1, "0", "10", "11");
        sure(1, "0", "01", "11");
        sure(0, "0", "01", "10");
        sure(0, "00000000", "0000000");
        sure(0, "1", "011", "01110", "1110", "10011");
        sure(1, "000", "001", "010", "011", "100", "101", "110", "111");
    }

    private void termsShortest() {
        e.terms("SHORTEST: by how often each sign comes (1 .. 99): the least sum of (how often times knocks) of CLEAR signs.");
        shortest(100, 1, 99);
        shortest(9, 1, 2, 3);
        shortest(9, 3, 2, 1);
        shortest(8, 1, 1, 1, 1);
        shortest(99 * 24, 99, 99, 99, 99, 99, 99, 99, 99);
        shortest(7 + 7 + 12 + 20 + 32 + 48 + 64 + 64, 1, 1, 2, 4, 8, 16, 32, 64);
        shortestFinds(UNLIKE, 0);
        shortestFinds(UNLIKE, 100);
        e.terms("(One sign alone: 1 knock.)");
        shortest(1, 1);
        shortest(99, 99);
    }

    private void promise32Knock() {
        e.promise(32, "A sign's knocks by a ROW (anew; r NONE: it has none): how many.");
        e.from(() -> Furnished.laying(1, 0, 0, 1));
        e.gives("of one that had none", x -> x.knock(3, 0), 4);
        e.gives("count(4) behind it", x -> x.knock(3, 0) + 10 * x.count(4), 34);
        e.gives("anew", x -> x.knock(0, 0) + 10 * x.count(4), 24);
        e.gives("anew: as many as the ROW has", x -> x.knock(7, 0) + 10 * x.mark(5, 5), 44);
        e.gives("the sign does not follow the ROW", x -> x.knock(7, 0) + x.tear(0) + 10 * x.mark(5, 5), 45);
        e.gives("r NONE", x -> x.knock(7, NONE), 0);
        e.gives("r NONE: it has none", x -> x.knock(7, NONE) + 10 * x.count(4) + x.mark(5, 5), 10);
        e.leaves("r NONE of one that has none", x -> x.knock(3, NONE), 0);
        e.gives("asked() stays", x -> x.knock(3, 0), 4, e.fresh().asked());
    }

    private void promise32KnockRefused() {
        e.promise(32, "BAD");
        e.from(() -> {
            ShadowNight x = Furnished.allThere();
            x.row(0, 1);
            return x;
        });
        e.range("knock(v, 0)", 0, 7, (x, sign) -> x.knock(sign, 0));
        e.range("knock(0, v)", 0, 5, (x, r) -> x.knock(0, r));
        e.bad("row -8", x -> x.knock(0, -8));
        e.bad("row -10", x -> x.knock(0, -10));
        e.bad("sign -1, r NONE", x -> x.knock(-1, NONE));
        e.bad("sign 8, r NONE", x -> x.knock(8, NONE));
        e.bad("a sign, ahead of SIZE", x -> x.knock(8, 2));
        e.from(Furnished::night);
        e.bad("a sign, ahead of NOTHING", x -> x.knock(-1, 4));
        e.promise(32, "NOTHING");
        e.finds(NOTHING, "knock(0, 4)", x -> x.knock(0, 4));
        e.finds(NOTHING, "knock(7, 5)", x -> x.knock(7, 5));
        e.promise(32, "SIZE: not 1 to 8");
        knockFinds(SIZE);
        knockFinds(SIZE, 0, 0, 0, 0, 0, 0, 0, 0, 0);
        knockFinds(SIZE, 2, 2, 2, 2, 2, 2, 2, 2, 2);
        e.from(Furnished::night);
        e.finds(SIZE, "40 knocks", x -> x.knock(0, 2));
        e.promise(32, "UNLIKE: not 0, 1.");
        knockFinds(UNLIKE, 2);
        knockFinds(UNLIKE, -1);
        knockFinds(UNLIKE, 0, 1, 0, 1, 0, 1, 0, 2);
        knockFinds(UNLIKE, -1, 1, 0, 1, 0, 1, 0, 1);
        knockFinds(UNLIKE, Edges.MOST, 0);
        knockFinds(UNLIKE, 0, Edges.LEAST);
    }

    private void promise33Clear() {
        e.promise(33, "CLEAR: NONE; else 10 times the first sign that is a beginning of another one (or the same), and that"
            + " (the first).");
        clear(NONE);
        clear(NONE, "", "", "", "", "", "", "", "0");
        clear(NONE, "0", "1");
        clear(1, "0", "0");
        clear(7, "01", "", "", "", "", "", "", "01");
        clear(67, "", "", "", "", "", "", "0", "0");
        clear(70, "01", "", "", "", "", "", "", "0");
        clear(20, "1111", "010", "1", "01", "011");
        clear(31, "1111", "010", "", "01", "011");
    }

    private void promise34Sure() {
        e.promise(34, "Whether signs are SURE: 1, 0.");
        sure(1, "0", "1");
        sure(1, "0");
        sure(1, "01010101");
        sure(0, "0", "1", "10");
        sure(0, "0", "", "", "", "", "", "", "00");
        sure(1, "0", "01", "011", "0111", "01111", "011111", "0111111", "01111111");
        e.from(() -> Furnished.signs("0", "01", "10"));
        e.gives("again: the same", x -> x.sure() + 10 * x.sure(), 0);
        e.gives("without one of them it is", x -> x.sure() + 10 * x.knock(2, NONE) + x.sure(), 1);
        e.from(() -> Furnished.signs("01010101", "0", "0101011"));
        e.gives("rests of a sign that has none now are not looked at", x -> 10 * x.sure() + x.knock(0, NONE) + x.sure(), 11);
        e.from(() -> {
            ShadowNight x = Furnished.signs("0", "01");
            Expect.lay(x, 0, 1, 0);
            return x;
        });
        e.gives("what was ahead by knocks that a sign had before is gone", x -> x.sure() + x.knock(1, 0) + 10 * x.sure(), 13);
        // rows that two rows of signs give late, behind many ways to be ahead: 10101011 1101 01010 10101011 01000 is also
        // 1010101 111 01010 1010101 01101000; 0000 00011000 100 00000001 0000 is also 00000001 100 010000 0000 010000
        sure(0, "01000", "1010101", "01101000", "111", "1101", "01010", "10011000", "10101011");
        sure(0, "00000001", "00010011", "100", "", "00011000", "0000010", "0000", "010000");
        sure(0, "0100100", "1000000", "00010011", "110011", "0", "0000001", "", "101000");
        e.promise(34, "(Two of the same knocks: 0; none: 1.)");
        sure(0, "10", "", "10");
        sure(0, "", "", "", "", "", "", "0", "0");
        sure(0, "01010101", "", "", "", "", "", "", "01010101");
        sure(1);
    }

    private void promise35Shortest() {
        e.promise(35, "SHORTEST by a ROW of how often signs come (1 to 8 of them).");
        shortest(7, 7);
        shortest(14, 7, 7);
        shortest(24, 1, 1, 1, 1, 1, 1, 1, 1);
        shortest(210, 99, 1, 1, 2, 3, 5, 8, 13);
        shortest(224, 5, 9, 12, 13, 16, 45);
        shortest(224, 45, 16, 13, 12, 9, 5);
        e.promise(35, "BAD");
        e.from(() -> {
            ShadowNight x = Furnished.allThere();
            x.lay(5, 0, 1);
            x.row(0, 1);
            x.lay(0, 0, 1);
            return x;
        });
        e.range("shortest(v)", 0, 5, (x, r) -> x.shortest(r));
        e.bad("row NONE", x -> x.shortest(NONE));
        e.promise(35, "NOTHING");
        e.finds(NOTHING, "shortest(4)", x -> x.shortest(4));
        e.finds(NOTHING, "shortest(5)", x -> x.shortest(5));
    }

    private void promise35ShortestRefused() {
        e.promise(35, "SIZE");
        shortestFinds(SIZE);
        shortestFinds(SIZE, 1, 1, 1, 1, 1, 1, 1, 1, 1);
        shortestFinds(SIZE, 0, 0, 0, 0, 0, 0, 0, 0, 0);
        e.from(Furnished::night);
        e.finds(SIZE, "of 40", x -> x.shortest(2));
        e.promise(35, "UNLIKE.");
        shortestFinds(UNLIKE, 0);
        shortestFinds(UNLIKE, 100);
        shortestFinds(UNLIKE, 1, 1, 1, 1, 1, 1, 1, 0);
        shortestFinds(UNLIKE, 100, 1, 1, 1, 1, 1, 1, 1);
        shortestFinds(UNLIKE, -1);
        shortestFinds(UNLIKE, Edges.LEAST, 5);
        shortestFinds(UNLIKE, 5, Edges.MOST);
    }
}
