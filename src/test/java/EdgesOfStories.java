/** Promises 17 to 24: stories, hands, the trunk. */
final class EdgesOfStories {
    private static final int NOTHING = Edges.NOTHING, UNLIKE = Edges.UNLIKE, SIZE = Edges.SIZE;
    private static final int NONE = ShadowNight.NONE;
    private static final String TWELVE = "1/1/1/1/1/1/1/1/1/1/1/1";
    private final Edges e;

    EdgesOfStories(Edges edges) {
        e = edges;
    }

    void look() {
        termsBlanks();
        termsScenes();
        termsLengths();
        termsFault();
        termsStory();
        termsHands();
        termsFewest();
        termsTakings();
        termsReaching();
        promise17Fault();
        promise18Story();
        promise18StoryRefused();
        promise19Scene();
        promise20Hands();
        promise21Third();
        promise22Takings();
        promise23Reaching();
        promise23ReachingRefused();
        promise24Trunk();
    }

    /** A TEXT 3 of these signs. */
    private static ShadowNight reading(String signs) {
        ShadowNight x = Furnished.night();
        Expect.write(x, 3, signs);
        return x;
    }

    /** The FAULT of a TEXT, and that story() takes just what has none. */
    private void fault(String signs, int due) {
        e.from(() -> reading(signs));
        e.leaves("fault of '" + signs + "'", x -> x.fault(3), due);
        if (due == NONE) {
            e.due("story of '" + signs + "' is taken", e.fresh().story(3) > 0 ? 1 : 0, 1);
        } else {
            e.state("story of '" + signs + "'", x -> x.story(3));
        }
    }

    private static String blanks(int n) {
        return " ".repeat(n);
    }

    private void termsBlanks() {
        e.terms("A STORY is a TEXT: blanks (32) ahead, behind as many as wanted, none within;");
        fault("1", NONE);
        fault(blanks(59) + "1", NONE);
        fault("1" + blanks(59), NONE);
        fault(blanks(30) + "1" + blanks(29), NONE);
        fault("a 1", 1);
        fault("1 1", 2);
        fault("1 2 ", 2);
        fault("1 /1", 2);
        fault("1/ 1", 2);
        fault("1 -2", 2);
        fault("1- 2", 2);
        fault("1 !", 2);
        fault("1-2 !", 4);
        fault("1!  /1", 4);
        fault("\t1", 0);
        fault("1\t", 1);
        fault("1\u0000", 1);
        fault("1\u00a0", 1);
        fault("1\u0120", NONE);
    }

    private void termsScenes() {
        e.terms("scenes (1 to 12) with / (47) between;");
        fault("", 0);
        fault("1", NONE);
        fault(TWELVE, NONE);
        fault(TWELVE + "/1", 23);
        fault("/1", 0);
        fault("1//1", 2);
        fault("1/", 2);
        fault("1.1", 1);
        fault("10", NONE);
        e.terms("each: letters a .. h (97 ..: the HIDE has to be there) and A .. H (65 ..: it has to be in a hand), each"
            + " HIDE once at most, perhaps none, at most two capitals;");
        fault("abcdefgh1", NONE);
        fault("hgfedcba1", NONE);
        fault("A1/H1", NONE);
        fault("AHbcdefg1", NONE);
        fault("i1", 0);
        fault("`1", 0);
        fault("I1", 0);
        fault("@1", 0);
        fault("aa1", 1);
        fault("AA1", 1);
        fault("aA1", 1);
        fault("Aa1", 1);
        fault("a1/a1/A1", NONE);
        fault("1", NONE);
        fault("AB1", NONE);
        fault("AB1/CD1", NONE);
        fault("ABC1", 2);
        fault("aBcDeF1", 5);
    }

    private void termsLengths() {
        e.terms("then its LEAST length (one or two figures, 1 .. 99);");
        fault("1", NONE);
        fault("99", NONE);
        fault("0", 1);
        fault("100", 2);
        fault("999", 2);
        fault("a", 1);
        fault("a!", 1);
        fault("a-1", 1);
        fault("a/1", 1);
        fault("1a", 1);
        fault(":", 0);
        e.terms("then perhaps - (45) and its MOST (no less);");
        fault("1-1", NONE);
        fault("1-99", NONE);
        fault("99-99", NONE);
        fault("99-98", 5);
        fault("2-1", 3);
        fault("1-100", 4);
        fault("1-", 2);
        fault("1-!", 2);
        fault("1-/1", 2);
        fault("1--2", 2);
        fault("1-2-3", 3);
        e.terms("then perhaps ! (33: it can't be cut).");
        fault("1!", NONE);
        fault("1-2!", NONE);
        fault("1!/1!", NONE);
        fault("!", 0);
        fault("a!1", 1);
        fault("1!!", 2);
        fault("1!-2", 2);
        fault("1!2", 2);
        e.terms("Without MOST: LEAST.");
        e.from(() -> Furnished.telling("7/1/99"));
        e.tells("MOST of 7", x -> x.scene(0, 3), 7);
        e.tells("MOST of 1", x -> x.scene(1, 3), 1);
        e.tells("MOST of 99", x -> x.scene(2, 3), 99);
    }

    private void termsFault() {
        e.terms("A FAULT is the first place at which it can't go on so (a HIDE twice, a third capital, a thirteenth scene:"
            + " the letter, or its /;");
        fault("abcdefgha1", 8);
        fault("bacdB1", 4);
        fault("1/2/abca1", 7);
        fault("ABcdC1", 4);
        fault("ABcdE1", 4);
        fault("1/AB1/CDE1", 8);
        fault("ABA1", 2);
        fault(TWELVE + "/1", 23);
        fault(TWELVE + "/", 23);
        fault(TWELVE + "//", 23);
        fault(TWELVE + "! ", NONE);
        fault("aa1/bb", 1);
        e.terms("a length 0, a MOST below LEAST: the place behind;");
        fault("0", 1);
        fault("0/1", 1);
        fault("0-5", 1);
        fault("0!", 1);
        fault("00", 2);
        fault("000", 2);
        fault("00/1", 2);
        fault("1-0", 3);
        fault("1-00", 4);
        fault("5-4/1", 3);
        fault("5-4!", 3);
        fault("50-49/1", 5);
        fault("50-5/1", 4);
        fault("50-5", 4);
        fault("01", NONE);
        fault("10-010", 5);
        e.terms("the TEXT's size, if its end comes too early).");
        fault("", 0);
        fault(" ", 1);
        fault(blanks(60), 60);
        fault("a", 1);
        fault("AB", 2);
        fault("1-", 2);
        fault("1/", 2);
        fault("1/a", 3);
        fault(TWELVE.substring(0, 22), 22);
        fault(blanks(59) + "a", 60);
    }

    private void termsStory() {
        e.terms("THE STORY is what the latest TEXT told (without scenes at first).");
        e.gives("count(3) at first", x -> new ShadowNight().count(3), 0);
        e.gives("the latest counts", x -> Expect.tell(x, "1/1") + 10 * Expect.tell(x, "7") + 100 * x.count(3), 112);
        e.tells("a TEXT that is laid later is not looked at", x -> x.text(0, 0) + x.scene(5, 2), 9);
        e.tells("nor a TEXT with a FAULT", x -> x.text(3, 1) + x.story(3) + 3 + x.scene(5, 2), 9);
        e.terms("Its HIDES: those that it names.");
        e.gives("five HIDES, whether they are there or not", x -> x.trunk(4) > 0 ? x.at(4, 4) + x.at(4, 5) : 0,
            1 + ShadowNight.FINDING);
        e.from(() -> Furnished.telling("1/1"));
        e.gives("none", x -> x.trunk(4) == 0 ? x.at(4, 0) : 0, ShadowNight.FINDING);
        e.from(() -> Furnished.telling("abcdefgh1"));
        e.gives("all", x -> x.trunk(4) > 0 ? x.at(4, 7) + x.at(4, 8) : 0, 1 + ShadowNight.FINDING);
    }

    private void hands(String story, int due) {
        e.from(() -> Furnished.telling(story));
        e.leaves("hands of '" + story + "'", x -> x.hands(), due);
    }

    private void termsHands() {
        e.terms("HANDS: each of its HIDES is in the trunk (0), stuck (1), in the left hand (2), in the right (3); a hand"
            + " holds one.");
        hands("AB1", 4);
        hands("AB1/CD1", 8);
        hands("ABc1", 8);
        hands("abc1", 8);
        e.terms("In a scene: letters are stuck or in a hand, capitals in a hand, others anywhere.");
        hands("a1/A1/a1", 2);
        hands("A1/1/A1", 2);
        hands("A1/b1/A1", 4);
        hands("A1/BC1/A1", 8);
        hands("ab1/BC1/ab1", 8);
        e.terms("From scene to scene (at first, and behind the last, all are in the trunk) a HIDE that changes from hand to"
            + " trunk, or to stuck, or back, costs 1; from hand to hand, from trunk to stuck, or back 2.");
        hands("A1", 2);
        hands("a1", 2);
        hands("abc1", 2 + 2 + 4);
        hands("ABc1/abC1", 1 + 1 + 2 + 1 + 1 + 2 + 1 + 1);
        hands("AB1/aCb1", 8);
        hands("1", 0);
    }

    private void termsFewest() {
        e.terms("FEWEST: the least sum (of 6 HIDES at most; else SPENT -6).");
        e.due("SPENT", ShadowNight.SPENT, -6);
        hands("abcdef1", 20);
        hands("cdefgh1", 20);
        hands("abcdefg1", ShadowNight.SPENT);
        hands("abcdefgh1", ShadowNight.SPENT);
        hands("a1/b1/c1/d1/e1/f1", 12);
        hands("a1/b1/c1/d1/e1/f1/g1", ShadowNight.SPENT);
        hands("AB1/CD1/EF1/AB1/CD1/EF1/AB1/CD1/EF1/AB1/CD1/EF1", 48);
    }

    private void takings(String story, int due, int last) {
        e.from(() -> Furnished.telling(story));
        e.gives("takings of '" + story + "'", x -> x.takings(), due, last);
    }

    private void termsTakings() {
        e.terms("TAKINGS of a STORY: scene by scene, its HIDES that are not in the scene ahead, by their numbers.");
        takings("hba1", 3, 7);
        takings("ab1/ba1", 2, 1);
        takings("a1/1/a1", 2, 0);
        takings("a1/A1", 1, 0);
        takings("h1/hba1", 3, 1);
        takings("abcdefgh1/1/abcdefgh1/1/abcdefgh1/1/abcdefgh1/1/abcdefgh1", 40, 7);
        takings("abcd1/efgh1/abcd1/efgh1/abcd1/efgh1/abcd1/efgh1/ABcd1/efgh1", 40, 7);
    }

    private void reaching(String story, int due, int... order) {
        e.from(() -> {
            ShadowNight x = Furnished.telling(story);
            Expect.lay(x, 0, order);
            return x;
        });
        e.leaves("reaching of '" + story + "'", x -> x.reaching(0), due);
    }

    private void termsReaching() {
        e.terms("REACHING of an order of the trunk: the sum over all TAKINGS of how far places of one and the next are apart"
            + " (the first from place 0).");
        reaching("a1", 0, 0);
        reaching("a1/b1", 1, 0, 1);
        reaching("a1/b1", 2, 1, 0);
        reaching("a1/1/a1", 0, 0);
        reaching("a1/h1/a1/h1", 3, 0, 7);
        reaching("a1/h1/a1/h1", 4, 7, 0);
        reaching("abcdefgh1", 7, 0, 1, 2, 3, 4, 5, 6, 7);
        reaching("abcdefgh1", 14, 7, 6, 5, 4, 3, 2, 1, 0);
        e.terms("LEAST order of THE STORY's HIDES: the first (by places' HIDES) of the least REACHING.");
        e.from(() -> Furnished.telling("b1/a1/b1/c1"));
        e.gives("a b c, b a c and c b a reach 4: a b c is the first", x -> x.trunk(4), 4);
        e.tells("its place 0", x -> x.trunk(4) > 0 ? x.at(4, 0) : 0, 0);
        e.tells("its place 1", x -> x.trunk(4) > 0 ? x.at(4, 1) : 0, 1);
        e.tells("its place 2", x -> x.trunk(4) > 0 ? x.at(4, 2) : 0, 2);
    }

    private void promise17Fault() {
        e.promise(17, "A FAULT of a TEXT");
        fault("a1/b", 4);
        fault(blanks(60), 60);
        fault("", 0);
        e.promise(17, "NONE: there is none.");
        fault("a1/b2", NONE);
        fault("abcdefgh10-20!/ABcdefgh10-20!/HGabcdef99-99!/abcdefgh1-9!", NONE);
        e.promise(17, "BAD");
        e.from(() -> {
            ShadowNight x = reading("a");
            Expect.write(x, 0, "a");
            return x;
        });
        e.range("fault(v)", 0, 3, (x, t) -> x.fault(t));
        e.promise(17, "NOTHING.");
        e.finds(NOTHING, "fault(3)", x -> x.fault(3));
    }

    private void promise18Story() {
        e.promise(18, "THE STORY by a TEXT (MARKS, NEEDS go): how many scenes.");
        e.from(() -> reading("7"));
        e.gives("one", x -> x.story(3), 1);
        e.gives("count(3) behind it", x -> x.story(3) + 10 * x.count(3), 11);
        e.gives("a scene of THE STORY ahead is gone", x -> x.story(3) + x.scene(1, 0), 1 + ShadowNight.BAD);
        e.from(() -> reading(TWELVE));
        e.gives("twelve", x -> x.story(3), 12);
        e.from(Furnished::fourMarks);
        e.gives("the same again", x -> x.story(0), 6);
        e.gives("MARKS go: there is room for four", x -> x.story(0) > 0 ? x.markScene(3, 0, 0) : 0, 1);
        e.gives("MARKS go: scene 0 can be cut", x -> x.story(0) > 0 ? x.good(1) : 0, 1);
        e.gives("NEEDS go: scene 4 can be cut", x -> x.story(0) > 0 ? x.good(16) : 0, 1);
        e.gives("asked() stays", x -> x.story(0), 6, -6);
        e.promise(18, "(MARKS, NEEDS go)");
        e.gives("nothing of THE STORY before the last one comes back", x -> toldAgain(x), 0);
        e.promise(18, "BAD");
        e.from(() -> reading("7"));
        e.range("story(v)", 0, 3, (x, t) -> x.story(t));
        e.promise(18, "NOTHING");
        e.finds(NOTHING, "story(3)", x -> x.story(3));
    }

    /** Whatever stood in a scene twice before must be gone: digest() of the same TEXT, told once and told again. */
    private static long toldAgain(ShadowNight x) {
        x.story(0);
        long once = x.digest();
        long before = once;
        for (int again = 0; again < 4; again++) {
            for (int s = 0; s < 4; s++) {
                x.markScene(s, s, 9);
            }
            x.need(5, 0);
            Expect.tell(x, "ABcdefgh7-9!/h7!/7!/7!/7!/7!/7!");
            x.markScene(6, 0, 0);
            x.need(0, 0);
            if (again % 2 == 0) {
                x.story(0);
            }
            Expect.tell(x, Furnished.STORY);
            before = x.digest() == once ? before : x.digest();
        }
        return before - once;
    }

    private void promise18StoryRefused() {
        e.promise(18, "STATE: a FAULT.");
        e.state("an empty one", x -> x.story(1));
        e.state("60 blanks", x -> x.story(2));
        e.from(() -> reading("a1/b2/c3/d"));
        e.state("the end comes too early: nothing of it is kept", x -> x.story(3));
        e.from(() -> reading(TWELVE + "/1"));
        e.state("a thirteenth scene", x -> x.story(3));
        e.promise(18, "(STATE behind NOTHING.)");
        e.finds(NOTHING, "a missing TEXT is NOTHING, not STATE", x -> x.story(3));
    }

    private void promise19Scene() {
        e.promise(19, "Of a scene: 0 HIDES that have to be there (bits; capitals, too), 1 in a hand, 2 LEAST, 3 MOST, 4"
            + " whether it can't be cut (1, 0), told by asked(): 1.");
        int[][] due = {{0b11, 0b10, 3, 3, 0}, {0b111, 0b101, 5, 9, 0}, {0b100, 0, 2, 2, 1}, {0b1011, 0, 4, 6, 0},
            {128, 128, 1, 1, 0}, {129, 129, 9, 20, 1}};
        for (int s = 0; s < due.length; s++) {
            for (int what = 0; what < 5; what++) {
                int scene = s;
                int asked = what;
                e.tells("scene(" + s + ", " + what + ")", x -> x.scene(scene, asked), due[s][what]);
            }
        }
        e.from(() -> Furnished.telling("1/abcdefgh99"));
        e.tells("no HIDES", x -> x.scene(0, 0), 0);
        e.tells("all HIDES", x -> x.scene(1, 0), 255);
        e.promise(19, "BAD: also a scene that there is not.");
        e.range("scene(v, 0) of six", 0, 5, (x, s) -> x.scene(s, 0));
        e.range("scene(5, v)", 0, 4, (x, what) -> x.scene(5, what));
        e.from(() -> Furnished.telling(TWELVE));
        e.range("scene(v, 0) of twelve", 0, 11, (x, s) -> x.scene(s, 0));
        e.from(() -> Furnished.telling("1"));
        e.range("scene(v, 0) of one", 0, 0, (x, s) -> x.scene(s, 0));
        e.from(ShadowNight::new);
        e.bad("scene(0, 0) of none", x -> x.scene(0, 0));
    }

    private void promise20Hands() {
        e.promise(20, "FEWEST.");
        hands(Furnished.STORY, 12);
        hands("1", 0);
        e.from(ShadowNight::new);
        e.leaves("without scenes", x -> x.hands(), 0);
        e.promise(20, "SPENT: more than 6 HIDES.");
        hands("abcdefg1", ShadowNight.SPENT);
        hands("ab1/cd1/ef1/gh1", ShadowNight.SPENT);
        hands("ab1/cd1/ef1", 12);
        hands("h1/g1/f1/e1/d1/c1", 12);
    }

    private void third(String story, int due) {
        e.from(() -> Furnished.telling(story));
        e.leaves("third of '" + story + "'", x -> x.third(), due);
    }

    private void promise21Third() {
        e.promise(21, "The first scene (0 on) for which three hands would be wanted, if all its HIDES had to be in hands");
        third("abc1", 0);
        third("ab1/abC1/abc1", 1);
        third("ab1/abcdefgh1", 1);
        third("ab1/AB1/1/c1/d1/e1/f1/g1/h1/a1/b1/ABc1", 11);
        e.promise(21, "NONE.");
        third("ab1/AB1/cd1", NONE);
        third("1", NONE);
        third(TWELVE, NONE);
        e.gives("scenes of stories told before are not looked at", x -> Expect.tell(x, "1/abc1") + Expect.tell(x, "1/abc1")
            + Expect.tell(x, "1") + x.third(), 5 + NONE);
        e.from(ShadowNight::new);
        e.leaves("without scenes", x -> x.third(), NONE);
    }

    private void promise22Takings() {
        e.promise(22, "How many TAKINGS");
        takings(Furnished.STORY, 8, 0);
        takings("h1", 1, 7);
        e.promise(22, "the last one's HIDE by asked() (NONE).");
        takings("a1/h1/h1", 2, 7);
        takings("a1/1", 1, 0);
        takings("1", 0, NONE);
        takings(TWELVE, 0, NONE);
        e.from(() -> Furnished.telling("a1/h1/h1"));
        e.gives("again: the same", x -> x.takings() + 10 * x.takings(), 22, 7);
        e.gives("none, behind some", x -> x.takings() + 10 * Expect.tell(x, "1") + x.takings(), 12, NONE);
        e.from(ShadowNight::new);
        e.gives("without scenes", x -> x.takings(), 0, NONE);
    }

    private void promise23Reaching() {
        e.promise(23, "REACHING of an order of the trunk (a ROW of all of THE STORY's HIDES, each once).");
        reaching(Furnished.STORY, 12, 0, 1, 2, 3, 7);
        reaching(Furnished.STORY, 16, 7, 3, 2, 1, 0);
        reaching("1", 0);
        e.from(ShadowNight::new);
        e.gives("an empty order without scenes", x -> x.row(0, 0) + x.reaching(0), 0);
        e.promise(23, "BAD");
        e.from(() -> {
            ShadowNight x = Furnished.telling("a1");
            x.row(0, 1);
            x.row(5, 1);
            return x;
        });
        e.range("reaching(v)", 0, 5, (x, r) -> x.reaching(r));
        e.promise(23, "NOTHING");
        e.finds(NOTHING, "reaching(4)", x -> x.reaching(4));
        e.finds(NOTHING, "reaching(5)", x -> x.reaching(5));
    }

    private void refusedOrder(int finding, int... order) {
        e.from(() -> Furnished.laying(order));
        e.finds(finding, "order " + java.util.Arrays.toString(order), x -> x.reaching(0));
    }

    private void promise23ReachingRefused() {
        e.promise(23, "SIZE: not as many");
        refusedOrder(SIZE, 0, 1, 2, 3);
        refusedOrder(SIZE, 0, 1, 2, 3, 7, 7);
        refusedOrder(SIZE, 0, 1, 2, 3, 7, 4);
        refusedOrder(SIZE);
        refusedOrder(SIZE, -1);
        e.from(Furnished::night);
        e.finds(SIZE, "40 for 5", x -> x.reaching(2));
        e.from(() -> Furnished.telling("1"));
        e.finds(SIZE, "3 for none", x -> x.reaching(0));
        e.promise(23, "UNLIKE.");
        refusedOrder(UNLIKE, 0, 1, 2, 3, 3);
        refusedOrder(UNLIKE, 0, 1, 2, 3, 4);
        refusedOrder(UNLIKE, 0, 1, 2, 3, 8);
        refusedOrder(UNLIKE, 0, 1, 2, 3, -1);
        refusedOrder(UNLIKE, 0, 1, 2, 3, 32);
        refusedOrder(UNLIKE, 0, 1, 2, 3, 39);
        refusedOrder(UNLIKE, Edges.LEAST, 1, 2, 3, 7);
        refusedOrder(UNLIKE, Edges.MOST, 1, 2, 3, 7);
    }

    private void promise24Trunk() {
        e.promise(24, "LEAST REACHING; the order comes to a ROW (anew).");
        e.gives("trunk(4) that was missing", x -> x.trunk(4), 11);
        e.gives("count(0) behind it", x -> x.trunk(4) + 100 * x.count(0), 511);
        e.gives("trunk(2) that was longer", x -> x.trunk(2) + x.at(2, 5), 11 + ShadowNight.FINDING);
        e.gives("trunk(1) that was empty", x -> x.trunk(1) + x.at(1, 4), 12, 7);
        int[] order = {2, 0, 1, 3, 7};
        for (int i = 0; i < order.length; i++) {
            int place = i;
            e.tells("place " + i, x -> x.trunk(0) > 0 ? x.at(0, place) : 0, order[i]);
        }
        e.gives("asked() stays", x -> x.trunk(0), 11, -6);
        e.from(ShadowNight::new);
        e.gives("without scenes: an empty order", x -> x.trunk(5) + 10 * x.count(0) + x.at(5, 0), 10 + ShadowNight.FINDING);
        e.from(() -> Furnished.telling("h1"));
        e.tells("one HIDE", x -> x.trunk(0) == 0 ? x.at(0, 0) : 0, 7);
        e.promise(24, "BAD.");
        e.range("trunk(v)", 0, 5, (x, r) -> x.trunk(r));
    }
}
