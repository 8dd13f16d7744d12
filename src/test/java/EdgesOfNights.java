/** Promises 25 to 31: the night. */
final class EdgesOfNights {
    private static final int NONE = ShadowNight.NONE, BAD = ShadowNight.BAD;
    private static final String TWELVE = "1/1/1/1/1/1/1/1/1/1/1/1";
    private final Edges e;

    EdgesOfNights(Edges edges) {
        e = edges;
    }

    void look() {
        termsNight();
        termsNeeds();
        termsGood();
        termsBest();
        termsLaughter();
        termsTale();
        promise25MarkScene();
        promise25MarkSceneFull();
        promise26Need();
        promise27Good();
        promise28Best();
        promise29Begins();
        promise29BeginsNone();
        promise30Laughter();
        promise30LaughterRefused();
        promise31Tale();
    }

    /** A STORY with MARKS: scene, from, to, scene, from, to, .. */
    private void story(String signs, int... marks) {
        e.from(() -> {
            ShadowNight x = Furnished.telling(signs);
            for (int i = 0; i + 2 < marks.length; i += 3) {
                x.markScene(marks[i], marks[i + 1], marks[i + 2]);
            }
            return x;
        });
    }

    private void good(int cut, int due) {
        e.leaves("good(" + cut + ")", x -> x.good(cut), due);
    }

    private void termsNight() {
        e.terms("A NIGHT begins at 0: scenes that are not cut come one behind the other, each LEAST to MOST long.");
        story("5-9/3/1");
        e.gives("the first scene", x -> x.begins(0, 0), 0, 0);
        e.gives("the second one", x -> x.begins(0, 1), 5, 9);
        e.gives("the third one", x -> x.begins(0, 2), 8, 12);
        e.gives("the third one, the first being cut", x -> x.begins(1, 2), 3, 3);
        story("5-9/3/1", 0, 1, 1);
        good(0, 0);
        e.terms("MARKS: scene s is to begin from a to b (0 .. 999; told for 4 scenes at most, the last told of one counts).");
        story(TWELVE);
        e.range("markScene(0, v, 999)", 0, 999, (x, a) -> x.markScene(0, a, 999));
        e.range("markScene(0, 0, v)", 0, 999, (x, b) -> x.markScene(0, 0, b));
        e.from(Furnished::fourMarks);
        e.full("a fifth", x -> x.markScene(3, 0, 999));
        e.gives("one of the four again", x -> x.markScene(5, 0, 999), 4);
        story("1/1", 1, 0, 0, 1, 1, 1);
        good(0, 1);
        story("1/1", 1, 1, 1, 1, 0, 0);
        good(0, 0);
    }

    /** STORY "a1/b1/Ab1" with the NEEDS that scene 2 has. */
    private void needing(int... hides) {
        e.from(() -> {
            ShadowNight x = Furnished.telling("a1/b1/Ab1");
            for (int k : hides) {
                x.need(2, k);
            }
            return x;
        });
    }

    private void termsNeeds() {
        e.terms("A scene that shows a HIDE (by letter or capital) for which a NEED is told (scene, HIDE) needs an earlier"
            + " scene not cut that shows it, too.");
        needing();
        good(3, 1);
        needing(0);
        good(0, 1);
        good(1, 0);
        good(2, 1);
        good(5, 1);
        needing(1);
        good(1, 1);
        good(2, 0);
        needing(0, 1);
        good(0, 1);
        good(1, 0);
        good(2, 0);
        good(7, 1);
        story("ab1/1/A1");
        e.gives("the first scene can't have one met", x -> x.need(0, 0) == 1 ? x.good(0) : BAD, 0);
        e.gives("but it can be cut", x -> x.need(0, 0) == 1 ? x.good(1) : BAD, 1);
        story("a1/1/1/1/1/1/1/1/1/1/1/A1");
        e.gives("ten scenes between", x -> x.need(11, 0) == 1 ? x.good(0) : BAD, 1);
        story("b1/a1/b1");
        e.gives("a later one does not do", x -> x.need(0, 1) == 1 ? x.good(0) : BAD, 0);
    }

    private void termsGood() {
        e.terms("GOOD is a set of scenes to cut (bits; none with !; scenes with MARKS stay), if lengths can be chosen so that"
            + " all MARKS hold, and all NEEDS of scenes that stay.");
        story("5-9/3!/4/2", 3, 0, 999);
        good(0, 1);
        good(2, 0);
        good(8, 0);
        good(5, 1);
        story("5-9/3!/4/2", 3, 16, 16);
        good(0, 1);
        good(4, 0);
        story("5-9/3!/4/2", 3, 17, 999);
        good(0, 0);
        story("5-9/3!/4/2", 3, 0, 12);
        good(0, 1);
        story("5-9/3!/4/2", 3, 0, 11);
        good(0, 0);
        good(4, 1);
        // scene 1 begins at 7 to 8, scene 3 just 7 behind it
        story("5-9/3!/4/2", 1, 7, 8, 3, 15, 20);
        good(0, 1);
        story("5-9/3!/4/2", 1, 7, 8, 3, 16, 20);
        good(0, 0);
        story("5-9/3!/4/2", 1, 7, 8, 3, 0, 14);
        good(0, 1);
        story("5-9/3!/4/2", 1, 7, 8, 3, 0, 13);
        good(0, 0);
        good(4, 1);
    }

    private void termsBest() {
        e.terms("BEST: the GOOD set with the least lengths (LEAST) cut together, of alike ones the least bits.");
        story("4/6/3-5/2/1", 4, 0, 9);
        e.gives("one of 6, not two of 4 and 2", x -> x.best(), 2, 6);
        story("4/6/3-5/2/1", 4, 0, 10);
        e.gives("two of 3 and 2, not one of 6", x -> x.best(), 12, 5);
        story("5/5/5/5!", 3, 0, 10);
        e.gives("of alike ones the first", x -> x.best(), 1, 5);
        story("2/3/5/1!", 3, 0, 5);
        e.gives("of alike ones 2 and 3, not 5", x -> x.best(), 3, 5);
        story("5-99/6/1!", 2, 0, 6);
        e.gives("LEAST counts, not MOST", x -> x.best(), 1, 5);
    }

    private void termsLaughter() {
        e.terms("LAUGHTER: a scene that stays is just LEAST and l long (whatever its MOST is): the most l (0 .. 99) with"
            + " which a set is GOOD.");
        story("5-9/1", 1, 0, 25);
        e.leaves("20 more than LEAST", x -> x.laughter(0, 0), 20);
        story("5-9/1", 1, 5, 5);
        e.leaves("just LEAST", x -> x.laughter(0, 0), 0);
        story("5-9/1", 1, 0, 104);
        e.leaves("99, and no more", x -> x.laughter(0, 0), 99);
        story("5-9/1", 1, 0, 103);
        e.leaves("98", x -> x.laughter(0, 0), 98);
        story("5-9/1", 1, 104, 999);
        e.leaves("just 99", x -> x.laughter(0, 0), 99);
        story("5-9/1", 1, 105, 999);
        e.leaves("99 is not enough", x -> x.laughter(0, 0), NONE);
        story("5-9/1", 1, 0, 4);
        e.leaves("LEAST is too long", x -> x.laughter(0, 0), NONE);
    }

    private void termsTale() {
        e.terms("A TALE for a wish (HIDES): the fewest scenes of THE STORY (in order) that show all; of alike ones the least"
            + " lengths together, then the least bits.");
        story("a1/b1/AB99!");
        e.gives("one long scene, not two short ones", x -> x.tale(3), 4, 99);
        story("a5/a4-99/a4");
        e.gives("the shorter by LEAST, the first of them", x -> x.tale(1), 2, 4);
        story("a1/b2/c2/ab2/bc1");
        e.gives("two scenes, 2 long together: the first and the last", x -> x.tale(7), 17, 2);
        story("a1/b1/c1/d1/e1/f1/g1/h1");
        e.gives("all eight", x -> x.tale(255), 255, 8);
    }

    private void promise25MarkScene() {
        e.promise(25, "A MARK: how many scenes have one.");
        story("1/1/1/1/1/1");
        e.gives("the first", x -> x.markScene(5, 0, 0), 1);
        e.gives("of one scene again", x -> x.markScene(5, 0, 0) + 10 * x.markScene(5, 1, 1), 11);
        e.gives("a second", x -> x.markScene(5, 0, 0) + 10 * x.markScene(0, 999, 999), 21);
        e.gives("asked() stays", x -> x.markScene(5, 0, 0), 1, e.fresh().asked());
        e.promise(25, "BAD: a scene, a above b");
        e.range("markScene(v, 0, 0) of six", 0, 5, (x, s) -> x.markScene(s, 0, 0));
        e.gives("a just b", x -> x.markScene(0, 999, 999), 3);
        e.bad("a above b", x -> x.markScene(0, 1, 0));
        e.bad("a above b", x -> x.markScene(0, 999, 998));
        e.bad("a above b, of one that has a MARK", x -> x.markScene(5, 6, 5));
        e.range("markScene(0, v, 999)", 0, 999, (x, a) -> x.markScene(0, a, 999));
        e.range("markScene(0, 0, v)", 0, 999, (x, b) -> x.markScene(0, 0, b));
        story(TWELVE);
        e.range("markScene(v, 0, 0) of twelve", 0, 11, (x, s) -> x.markScene(s, 0, 0));
        e.from(ShadowNight::new);
        e.bad("markScene(0, 0, 0) without scenes", x -> x.markScene(0, 0, 0));
    }

    private void promise25MarkSceneFull() {
        e.promise(25, "FULL: a fifth.");
        e.gives("a fourth", x -> x.markScene(0, 0, 0) + 10 * x.markScene(1, 0, 0), 43);
        e.from(Furnished::fourMarks);
        e.full("a fifth", x -> x.markScene(3, 0, 0));
        e.full("a fifth", x -> x.markScene(4, 999, 999));
        e.gives("one of the four again", x -> x.markScene(0, 3, 4), 4);
        e.bad("BAD ahead of FULL: a above b", x -> x.markScene(3, 1, 0));
        e.bad("BAD ahead of FULL: b", x -> x.markScene(3, 0, 1000));
        e.bad("BAD ahead of FULL: a scene", x -> x.markScene(6, 0, 0));
    }

    private void promise26Need() {
        e.promise(26, "A NEED of a scene and a HIDE that it shows: 1.");
        e.gives("by a letter", x -> x.need(3, 3), 1);
        e.gives("by a capital", x -> x.need(4, 7), 1);
        e.leaves("one that is told already", x -> x.need(5, 7), 1);
        e.gives("of the first scene", x -> x.need(0, 0), 1);
        story("abcdefgh1");
        e.range("need(0, v) of all", 0, 7, (x, k) -> x.need(0, k));
        e.promise(26, "BAD: also one that it does not show.");
        e.bad("need(2, 0)", x -> x.need(2, 0));
        e.bad("need(2, 3)", x -> x.need(2, 3));
        e.bad("need(0, 7), a HIDE that is there", x -> x.need(0, 7));
        e.bad("no HIDE", x -> x.need(2, 8));
        e.bad("no HIDE", x -> x.need(2, -1));
        e.bad("no HIDE, the bit of a shown one 32 on", x -> x.need(2, 34));
        e.bad("no HIDE, the bit of a shown one 32 back", x -> x.need(2, -30));
        e.bad("the greatest", x -> x.need(2, Edges.MOST));
        e.bad("the least", x -> x.need(2, Edges.LEAST));
        story("a1/a1/a1");
        e.range("need(v, 0) of three", 0, 2, (x, s) -> x.need(s, 0));
        story("a1/a1/a1/a1/a1/a1/a1/a1/a1/a1/a1/a1");
        e.range("need(v, 0) of twelve", 0, 11, (x, s) -> x.need(s, 0));
        e.from(ShadowNight::new);
        e.bad("need(0, 0) without scenes", x -> x.need(0, 0));
    }

    private void promise27Good() {
        e.promise(27, "Whether a set of scenes to cut is GOOD: 1, 0.");
        story(TWELVE);
        good(0, 1);
        good(4095, 1);
        story("1!/1");
        good(1, 0);
        good(2, 1);
        good(3, 0);
        story("99/99/99/99/99/99/99/99/99/99/99/1", 11, 999, 999);
        good(1, 0);
        story("99/99/99/99/99/99/99/99/99/99/99/1", 11, 990, 990);
        good(0, 0);
        good(1024, 1);
        story("99/99/99/99/99/99/99/99/99/99/9-99/1", 11, 999, 999);
        good(0, 1);
        e.promise(27, "BAD: bits of scenes that there are not.");
        e.range("good(v) of six", 0, 63, (x, cut) -> x.good(cut));
        e.bad("a scene that there is not, beside one that there is", x -> x.good(65));
        e.bad("the highest bit", x -> x.good(1 << 31));
        story(TWELVE);
        e.range("good(v) of twelve", 0, 4095, (x, cut) -> x.good(cut));
        story("1");
        e.range("good(v) of one", 0, 1, (x, cut) -> x.good(cut));
        e.from(ShadowNight::new);
        e.range("good(v) without scenes", 0, 0, (x, cut) -> x.good(cut));
    }

    private void promise28Best() {
        e.promise(28, "BEST; the lengths cut by asked().");
        story("1/1");
        e.gives("nothing has to be cut", x -> x.best(), 0, 0);
        story(TWELVE, 11, 0, 0);
        e.gives("eleven of twelve", x -> x.best(), 2047, 11);
        story("99/99/99/99/99/99/99/99/99/99/99/1", 11, 0, 0);
        e.gives("as much as can be", x -> x.best(), 2047, 1089);
        story("99/99/99/99/99/99/99/99/99/99/9-99/1", 11, 999, 999);
        e.gives("lengthened up to the last", x -> x.best(), 0, 0);
        e.from(ShadowNight::new);
        e.gives("without scenes", x -> x.best(), 0, 0);
        story("a1/b1");
        e.gives("a NEED that can't be met", x -> x.need(1, 1) == 1 ? x.best() : BAD, 2, 1);
        story("a1/b2/Ab3!/a4!", 3, 0, 99);
        e.gives("NEEDS met by two scenes, one behind the other", x -> x.need(2, 0) + x.need(2, 1) + 10 * x.best(), 2, 0);
        e.gives("again: the same", x -> x.best() + 10 * x.best(), 0, 0);
        story("4/6/3-5/2/1", 4, 0, 9);
        e.gives("again, behind other calls", x -> x.best() + 100 * x.begins(0, 3) + 10000 * x.best(), 2 + 1300 + 20000, 6);
        e.promise(28, "NONE: none is GOOD.");
        story("2/1!", 1, 1, 1);
        e.leaves("2 or 0, never 1", x -> x.best(), NONE);
        story("2!/1!", 1, 0, 1);
        e.leaves("! stays", x -> x.best(), NONE);
        story("2!/1!");
        e.gives("behind a GOOD one", x -> x.best() + 10 * x.markScene(1, 0, 1) + x.best(), 10 + NONE, 0);
        story("1/1", 0, 1, 999);
        e.leaves("a night begins at 0", x -> x.best(), NONE);
        e.from(() -> {
            ShadowNight x = Furnished.telling("a1!");
            x.need(0, 0);
            return x;
        });
        e.leaves("a NEED of a scene with !", x -> x.best(), NONE);
    }

    private void promise29Begins() {
        e.promise(29, "From when a scene can begin, a set being cut (the least; the greatest by asked(); MARKS of scenes ahead"
            + " of it that stay, and its own, hold; nothing else is looked at).");
        story("5-9/a3!/4-6/2", 1, 6, 8, 2, 0, 10);
        e.gives("the first one", x -> x.begins(0, 0), 0, 0);
        e.gives("its own MARK", x -> x.begins(0, 1), 6, 8);
        e.gives("a MARK ahead and its own", x -> x.begins(0, 2), 9, 10);
        e.gives("MARKS ahead, two", x -> x.begins(0, 3), 13, 16);
        e.gives("a MARK ahead that is cut, though it has ! and a MARK", x -> x.begins(2, 2), 5, 9);
        e.gives("a MARK ahead that stays, another cut", x -> x.begins(2, 3), 9, 15);
        story("5-9/a3!/4-6/2", 3, 999, 999);
        e.gives("a later MARK is not looked at", x -> x.begins(0, 2), 8, 12);
        story("5-9/a3!/4-6/2");
        e.gives("NEEDS are not looked at", x -> x.need(1, 0) == 1 ? x.begins(0, 1) : BAD, 5, 9);
        story("99/99/99/99/99/99/99/99/99/99/99/1");
        e.gives("as late as can be", x -> x.begins(0, 11), 1089, 1089);
        e.gives("all ahead cut", x -> x.begins(2047, 11), 0, 0);
        e.gives("again, behind a later one", x -> x.begins(0, 11) + x.begins(0, 1), 1188, 99);
        e.gives("all behind cut", x -> x.begins(4094, 0), 0, 0);
        story("5-9/2", 1, 9, 999);
        e.gives("just the greatest", x -> x.begins(0, 1), 9, 9);
        story("5-9/2", 1, 0, 5);
        e.gives("just the least", x -> x.begins(0, 1), 5, 5);
    }

    /** Of scenes 1, 2, 3, 4 long: how long those ahead of one are together that stay. */
    private static int lengthsAhead(int cut, int scene) {
        int sum = 0;
        for (int s = 0; s < scene; s++) {
            sum += (cut & 1 << s) == 0 ? s + 1 : 0;
        }
        return sum;
    }

    private void promise29BeginsNone() {
        e.promise(29, "NONE: never, or it is cut.");
        story("1/2/3/4");
        for (int s = 0; s < 4; s++) {
            for (int cut = 0; cut < 16; cut++) {
                int scene = s;
                int set = cut;
                int begin = lengthsAhead(cut, s);
                boolean isCut = (cut & 1 << s) != 0;
                if (isCut) {
                    e.leaves("begins(" + cut + ", " + s + ")", x -> x.begins(set, scene), NONE);
                } else {
                    e.gives("begins(" + cut + ", " + s + ")", x -> x.begins(set, scene), begin, begin);
                }
            }
        }
        story("5-9/2", 1, 10, 999);
        e.leaves("never: too early", x -> x.begins(0, 1), NONE);
        story("5-9/2", 1, 0, 4);
        e.leaves("never: too late", x -> x.begins(0, 1), NONE);
        e.leaves("it is cut", x -> x.begins(2, 1), NONE);
        story("5-9/2/1", 1, 10, 999);
        e.leaves("never, by one ahead", x -> x.begins(0, 2), NONE);
        e.leaves("all are cut", x -> x.begins(7, 0), NONE);
        story("5/1", 0, 1, 1);
        e.leaves("the first can't begin later than 0", x -> x.begins(0, 0), NONE);
        e.promise(29, "BAD.");
        e.gives("all of six but the scene", x -> x.begins(62, 0), 0, 0);
        e.bad("a seventh of six", x -> x.begins(64, 0));
        e.bad("bits below 0", x -> x.begins(-1, 1));
        e.bad("bits below 0", x -> x.begins(-2, 0));
        e.bad("the least", x -> x.begins(Edges.LEAST, 0));
        e.bad("the greatest", x -> x.begins(Edges.MOST, 0));
        story("5-9/2/1");
        e.range("begins(0, v) of three", 0, 2, (x, s) -> x.begins(0, s));
        e.bad("no scene, ahead of NONE", x -> x.begins(7, 3));
        e.bad("no such bits, ahead of NONE", x -> x.begins(9, 0));
        e.bad("a scene 32 on", x -> x.begins(0, 32));
        e.from(ShadowNight::new);
        e.bad("begins(0, 0) without scenes", x -> x.begins(0, 0));
    }

    private void promise30Laughter() {
        e.promise(30, "The most l of LAUGHTER in a scene, a set being cut");
        story("5-9/3-4/4!/1", 3, 0, 20);
        e.leaves("paid by what the others do not take", x -> x.laughter(0, 0), 8);
        e.leaves("paid by a cut", x -> x.laughter(2, 0), 11);
        e.leaves("in a scene with !", x -> x.laughter(0, 2), 8);
        e.leaves("in a scene with a MARK, behind it", x -> x.laughter(0, 3), 99);
        story("5-9/3-4/4!/1", 3, 15, 16);
        e.leaves("just LEAST and l: its MOST is not looked at", x -> x.laughter(0, 1), 4);
        story("5-9/3-4/4!/1");
        e.leaves("without MARKS", x -> x.laughter(0, 0), 99);
        story("1");
        e.leaves("one scene", x -> x.laughter(0, 0), 99);
        story(TWELVE);
        e.leaves("the last of twelve, all others cut", x -> x.laughter(2047, 11), 99);
    }

    private void promise30LaughterRefused() {
        e.promise(30, "NONE: with none it is GOOD.");
        story("5-9/3-4/4!/1", 3, 0, 11);
        e.leaves("not even with 0", x -> x.laughter(0, 0), NONE);
        story("5-9/3-4/4!/1", 3, 500, 600);
        e.leaves("not even with 99", x -> x.laughter(0, 0), NONE);
        story("5-9/3-4/4!/1");
        e.leaves("one with ! is cut", x -> x.laughter(4, 0), NONE);
        story("a1/a1");
        e.gives("a NEED is not met", x -> x.need(1, 0) == 1 ? x.laughter(1, 1) : BAD, NONE);
        story("5-9/1", 1, 0, 99);
        e.leaves("a scene with a MARK is cut", x -> x.laughter(2, 0), NONE);
        e.promise(30, "BAD: also a scene that is cut.");
        e.bad("the scene is cut", x -> x.laughter(1, 0));
        e.bad("the scene is cut, among others", x -> x.laughter(3, 1));
        e.bad("no such bits", x -> x.laughter(64, 0));
        e.bad("bits below 0", x -> x.laughter(-2, 0));
        e.bad("the least", x -> x.laughter(Edges.LEAST, 0));
        e.bad("the greatest", x -> x.laughter(Edges.MOST - 1, 0));
        story("1/1/1");
        e.range("laughter(0, v) of three", 0, 2, (x, s) -> x.laughter(0, s));
        e.bad("a scene 32 on", x -> x.laughter(0, 32));
        story(TWELVE);
        e.range("laughter(0, v) of twelve", 0, 11, (x, s) -> x.laughter(0, s));
        e.from(ShadowNight::new);
        e.bad("laughter(0, 0) without scenes", x -> x.laughter(0, 0));
    }

    private void promise31Tale() {
        e.promise(31, "A TALE for a wish (bits 0 .. 255): scenes (bits; 0 for none wished); lengths together by asked().");
        e.gives("none wished", x -> x.tale(0), 0, 0);
        e.gives("H", x -> x.tale(128), 16, 1);
        e.gives("c", x -> x.tale(4), 4, 2);
        e.gives("all of THE STORY", x -> x.tale(0b10001111), 0b11100, 7);
        e.from(ShadowNight::new);
        e.gives("none wished, without scenes", x -> x.tale(0), 0, 0);
        story("abcdefgh99");
        e.gives("all", x -> x.tale(255), 1, 99);
        story("1/1/1/1/1/1/1/1/1/1/1/h99");
        e.gives("the last of twelve", x -> x.tale(128), 2048, 99);
        e.gives("again, behind none wished", x -> x.tale(128) + x.tale(0) + x.tale(128), 4096, 99);
        e.gives("none, behind NONE", x -> x.tale(1) + x.tale(0), NONE, 0);
        e.gives("NONE behind one", x -> x.tale(128) + x.tale(1), 2048 + NONE, 99);
        e.promise(31, "NONE: not all are shown.");
        e.leaves("e", x -> x.tale(16), NONE);
        e.leaves("a and e", x -> x.tale(17), NONE);
        e.leaves("all", x -> x.tale(255), NONE);
        e.from(ShadowNight::new);
        e.leaves("without scenes", x -> x.tale(1), NONE);
        e.promise(31, "BAD.");
        story("abcdefgh99");
        e.range("tale(v)", 0, 255, (x, wish) -> x.tale(wish));
        e.bad("one shown, and a bit too high", x -> x.tale(257));
    }
}
