import java.util.ArrayList;
import java.util.List;

/** Promises 45 to 51: what is told. */
final class EdgesOfTold {
    private static final int NOTHING = Edges.NOTHING, BEYOND = Edges.BEYOND, UNLIKE = Edges.UNLIKE;
    private static final int NOUGHT = Edges.NOUGHT, SIZE = Edges.SIZE, LEAST = Edges.LEAST, MOST = Edges.MOST;
    private static final int NONE = ShadowNight.NONE, BAD = ShadowNight.BAD;
    private final Edges e;

    EdgesOfTold(Edges edges) {
        e = edges;
    }

    void look() {
        promise45Asked();
        promise45AskedStays();
        promise45AskedOfOthers();
        promise46Upper();
        promise47Lower();
        promise48Count();
        promise48CountEmptyAndFull();
        promise49Finding();
        promise50Findings();
        promise51DigestOfNew();
        promise51DigestOfFull();
        promise51DigestParts();
        promise51DigestLeft();
    }

    private void promise45Asked() {
        e.promise(45, "What the latest lay(), at(), mean(), about(), scene(), takings(), best(), begins(), tale(),"
            + " leastApart(), told(), broken(), mistaken()");
        e.tells("lay", x -> x.lay(0, 0, 9), 5);
        e.tells("at", x -> x.at(0, 2), 7);
        e.tells("mean", x -> x.mean(0), 2);
        e.tells("about", x -> x.about(7, 1), 22);
        e.tells("scene", x -> x.scene(5, 3), 20);
        e.gives("takings", x -> x.takings(), 8, 0);
        e.gives("begins", x -> x.begins(1, 2), 8, 9);
        e.gives("tale", x -> x.tale(12), 12, 6);
        e.gives("leastApart", x -> x.leastApart(), 3, 27);
        e.tells("told", x -> x.told(3, 4), -40);
        e.gives("broken", x -> x.broken(2, 31, 32000), 1, 4);
        e.gives("mistaken", x -> x.mistaken(), 1, 6);
        e.from(() -> Furnished.telling("7/1/1"));
        e.gives("best", x -> x.markScene(1, 0, 0) * x.best(), 1, 7);
        e.gives("the latest one, of two", x -> x.told(3, 4) + x.about(7, 1), 2, 22);
        e.gives("the latest one, of two", x -> x.about(7, 1) + x.told(3, 4), 2, -40);
        e.gives("asked() itself", x -> x.told(3, 4) + 10 * x.asked() + 100 * x.asked(), 1 - 4400, -40);
        e.from(Furnished::night);
        e.gives("the least int", x -> x.lay(0, 0, LEAST) + x.at(0, 0), 2, LEAST);
        e.gives("the greatest int", x -> x.lay(0, 0, MOST) + x.at(0, 0), 2, MOST);
    }

    private void promise45AskedStays() {
        e.promise(45, "that was not refused (nor NONE) told");
        e.gives("takings() of none tells NONE", x -> Expect.tell(x, "1") + x.takings(), 1, NONE);
        e.gives("broken() that misses none tells NONE", x -> x.broken(7, 0, 0), 0, NONE);
        e.leaves("lay", x -> x.lay(6, 0, 9), BAD);
        e.finds(BEYOND, "lay", x -> x.lay(0, 3, 9));
        e.finds(NOTHING, "at", x -> x.at(4, 0));
        e.finds(NOUGHT, "mean", x -> x.mean(1));
        e.finds(NOTHING, "about", x -> x.about(3, 0));
        e.bad("scene", x -> x.scene(6, 0));
        e.bad("begins", x -> x.begins(64, 0));
        e.leaves("begins NONE", x -> x.begins(1, 0), NONE);
        e.bad("tale", x -> x.tale(256));
        e.leaves("tale NONE", x -> x.tale(16), NONE);
        e.bad("told", x -> x.told(8, 0));
        e.bad("broken", x -> x.broken(8, 0, 0));
        e.from(() -> Furnished.outlines(1));
        e.leaves("leastApart NONE", x -> x.leastApart(), NONE);
        e.from(() -> {
            ShadowNight x = Furnished.telling("1");
            x.markScene(0, 1, 1);
            return x;
        });
        e.leaves("best NONE", x -> x.best(), NONE);
        e.promise(45, "0 before.");
        e.from(ShadowNight::new);
        e.leaves("asked()", x -> x.asked(), 0);
        e.gives("behind a refused one", x -> x.at(0, 0), ShadowNight.FINDING, 0);
        e.gives("behind NONE", x -> x.leastApart(), NONE, 0);
    }

    private void promise45AskedOfOthers() {
        e.promise(45, "What the latest");
        e.quiet("row", x -> x.row(0, 4));
        e.quiet("tear", x -> x.tear(0));
        e.quiet("copy", x -> x.copy(0, 0, 2, 0, 3));
        e.quiet("text", x -> x.text(3, 4));
        e.quiet("put", x -> x.put(0, 0, 4));
        e.quiet("hide", x -> x.hide(3, 4, 4, 4));
        e.quiet("drop", x -> x.drop(0));
        e.quiet("lamp", x -> x.lamp(4, 4));
        e.quiet("covers", x -> x.covers(0, 0, 0, 7, 0, 0));
        e.quiet("fault", x -> x.fault(2));
        e.quiet("story", x -> x.story(0));
        e.quiet("hands", x -> x.hands());
        e.quiet("third", x -> x.third());
        e.quiet("trunk", x -> x.trunk(0));
        e.quiet("markScene", x -> x.markScene(0, 0, 4));
        e.quiet("need", x -> x.need(0, 0));
        e.quiet("good", x -> x.good(0));
        e.quiet("laughter", x -> x.laughter(0, 0));
        e.quiet("knock", x -> x.knock(3, 3));
        e.quiet("clear", x -> x.clear());
        e.quiet("sure", x -> x.sure());
        e.quiet("apart", x -> x.apart(0, 7));
        e.quiet("matters", x -> x.matters(0));
        e.quiet("moment", x -> x.moment(4, 4, 0, 1, 7));
        e.quiet("mark", x -> x.mark(3, 3));
        e.quiet("seen", x -> x.seen(4, false));
        e.quiet("count", x -> x.count(5));
        e.quiet("finding", x -> x.finding());
        e.quiet("findings", x -> x.findings(2));
        e.quiet("digest", x -> x.digest());
        e.gives("shadow", x -> x.shadow(0, 4, 4, 2), 1, -6);
        e.gives("place", x -> x.place(0, 22), 1, -6);
        e.from(() -> Furnished.laying(0, 1, 2, 3, 7));
        e.quiet("reaching", x -> x.reaching(0));
        e.from(() -> Furnished.laying(4, 5, 6));
        e.quiet("shortest", x -> x.shortest(0));
    }

    private void promise46Upper() {
        e.promise(46, "The upper number of the fraction that was told last");
        e.gives("shadow", x -> x.shadow(0, 7, -3, 2) * x.upper(), -60);
        e.gives("place", x -> x.place(0, 9999) + x.upper(), 18160);
        e.gives("the last of two", x -> x.place(0, 9999) + x.shadow(0, 7, -3, 2) * x.upper(), -60);
        e.gives("asked twice", x -> x.upper() + 1000 * x.upper(), 55055);
        e.gives("stays where place() is NONE", x -> x.place(0, 10) + x.upper(), NONE + 55);
        e.gives("stays where place() is BAD", x -> x.place(0, 10000) + x.upper(), BAD + 55);
        e.gives("stays where shadow() is NOTHING", x -> x.shadow(3, 0, 0, 0) + x.upper(), ShadowNight.FINDING + 55);
        e.gives("stays where shadow() is BAD", x -> x.shadow(0, 20, 0, 0) + x.upper(), BAD + 55);
        e.gives("does not follow THE LAMP", x -> x.lamp(60, 9) * x.upper(), 55);
        e.gives("does not follow the HIDE", x -> x.drop(0) * x.upper(), 55);
        e.gives("covers() tells none", x -> x.covers(0, 7, 0, 0, 7, 0) * x.upper(), 55);
        e.promise(46, "0 before.");
        e.from(ShadowNight::new);
        e.leaves("upper()", x -> x.upper(), 0);
        e.gives("behind a refused one", x -> x.shadow(0, 0, 0, 0) + x.upper(), ShadowNight.FINDING);
        e.gives("behind NONE", x -> x.hide(0, 2, 1, 1) * x.place(0, 1) + x.upper(), NONE);
    }

    private void promise47Lower() {
        e.promise(47, "Its lower number");
        e.gives("shadow", x -> x.shadow(0, 7, -3, 2) * x.lower(), 13);
        e.gives("place", x -> x.place(0, 9999) + x.lower(), 909);
        e.gives("the last of two", x -> x.shadow(0, 7, -3, 2) + x.place(0, 9999) + x.lower(), 910);
        e.gives("of 0", x -> x.shadow(0, 7, 0, 2) * x.lower(), 1);
        e.gives("asked twice", x -> x.lower() + 1000 * x.lower(), 2002);
        e.gives("stays where place() is NONE", x -> x.place(0, 10) + x.lower(), NONE + 2);
        e.gives("stays where place() is BAD", x -> x.place(0, 0) + x.lower(), BAD + 2);
        e.gives("stays where shadow() is NOTHING", x -> x.shadow(3, 0, 0, 0) + x.lower(), ShadowNight.FINDING + 2);
        e.gives("stays where shadow() is BAD", x -> x.shadow(0, 0, 100, 0) + x.lower(), BAD + 2);
        e.gives("does not follow THE LAMP", x -> x.lamp(60, 9) * x.lower(), 2);
        e.promise(47, "1 before.");
        e.from(ShadowNight::new);
        e.leaves("lower()", x -> x.lower(), 1);
        e.gives("behind a refused one", x -> x.shadow(0, 0, 0, 0) + x.lower(), ShadowNight.FINDING + 1);
        e.gives("behind NONE", x -> x.hide(0, 2, 1, 1) * x.place(0, 1) + x.lower(), NONE + 1);
    }

    private void counts(String object, int... due) {
        for (int what = 0; what < due.length; what++) {
            int counted = what;
            e.leaves("count(" + what + ") of " + object, x -> x.count(counted), due[what]);
        }
    }

    private void promise48Count() {
        e.promise(48, "0 ROWS, 1 TEXTS, 2 HIDES, 3 scenes, 4 signs with knocks, 5 MOMENTS,");
        counts("some of all", 4, 3, 4, 6, 2, 8);
        e.gives("an empty ROW is there", x -> x.row(4, 0) + x.count(0), 5);
        e.gives("a ROW anew", x -> x.row(0, 0) + x.count(0), 4);
        e.gives("a torn one is not", x -> x.tear(0) * x.count(0), 3);
        e.gives("an empty TEXT is there", x -> x.text(3, 0) + x.count(1), 4);
        e.gives("a HIDE anew", x -> x.hide(0, 1, 1, 1) * x.count(2), 4);
        e.gives("a dropped one is not", x -> x.drop(0) * x.count(2), 3);
        e.gives("a sign without knocks is not", x -> x.knock(0, NONE) + x.count(4), 1);
        e.gives("MOMENTS of a dropped HIDE are", x -> x.drop(0) * x.count(5), 8);
        e.promise(48, "6 HELD ones (WALKED, FOUGHT, too) that are there.");
        e.leaves("one of each", x -> x.count(6), 3);
        e.gives("a HELD one more", x -> x.moment(0, 1, 0, 0, 0) + 10 * x.count(6), 48);
        e.gives("a WALKED one more", x -> x.moment(0, 3, 0, 0, 0) + 10 * x.count(6), 48);
        e.gives("a FOUGHT one more", x -> x.moment(0, 4, 0, 0, 1) + 10 * x.count(6), 48);
        for (int kind : new int[] {0, 2, 5, 6}) {
            e.gives("KIND " + kind + " is none", x -> x.moment(0, kind, 0, 0, 0) + 10 * x.count(6), 38);
        }
        e.promise(48, "BAD.");
        e.range("count(v)", 0, 6, (x, what) -> x.count(what));
        e.from(ShadowNight::new);
        e.range("count(v) of a new object", 0, 6, (x, what) -> x.count(what));
    }

    private void promise48CountEmptyAndFull() {
        e.promise(48, "that are there.");
        e.from(ShadowNight::new);
        counts("a new object", 0, 0, 0, 0, 0, 0, 0);
        e.from(EdgesOfTold::full);
        counts("a full object", 6, 4, 8, 12, 8, 40, 40);
    }

    private void promise49Finding() {
        e.promise(49, "The latest FINDING");
        e.gives("NOTHING", x -> x.tear(4) + 10 * x.finding(), -3 + 10 * NOTHING);
        e.gives("BEYOND", x -> x.at(0, 3) + 10 * x.finding(), -3 + 10 * BEYOND);
        e.gives("UNLIKE", x -> x.mark(0, 1) + 10 * x.finding(), -3 + 10 * UNLIKE);
        e.gives("NOUGHT", x -> x.mean(1) + 10 * x.finding(), -3 + 10 * NOUGHT);
        e.gives("SIZE", x -> x.row(0, -1) + 10 * x.finding(), -3 + 10 * SIZE);
        e.gives("the latest of two", x -> x.row(0, -1) + x.tear(4) + 10 * x.finding(), -6 + 10 * NOTHING);
        e.gives("stays behind a call that is not refused", x -> x.row(0, -1) + x.row(0, 1) + 10 * x.finding(), 48);
        e.gives("stays behind BAD", x -> x.row(0, -1) + x.row(0, 41) + 10 * x.finding(), 46);
        e.gives("stays behind NONE", x -> x.row(0, -1) + x.fault(0) + 10 * x.finding(), 38);
        e.gives("stays behind STATE", x -> x.row(0, -1) + x.story(1) + 10 * x.finding(), 43);
        e.leaves("asked twice", x -> x.finding() + 10 * x.finding(), 11 * BEYOND);
        e.from(Furnished::fortyMoments);
        e.gives("stays behind FULL", x -> x.row(0, -1) + x.moment(0, 0, 0, 0, 0) + 10 * x.finding(), 45);
        e.promise(49, "(0 before any).");
        e.from(ShadowNight::new);
        e.leaves("finding()", x -> x.finding(), 0);
        e.gives("behind BAD", x -> x.row(0, 41) + x.finding(), BAD);
        e.gives("behind STATE", x -> x.text(0, 0) + x.story(0) + x.finding(), ShadowNight.STATE);
    }

    private void promise50Findings() {
        e.promise(50, "How often a FINDING (1 .. 5) was answered.");
        e.from(ShadowNight::new);
        for (int f = NOTHING; f <= SIZE; f++) {
            int finding = f;
            e.leaves("findings(" + f + ") at first", x -> x.findings(finding), 0);
        }
        e.range("findings(v)", 1, 5, (x, f) -> x.findings(f));
        e.gives("NOTHING, thrice", x -> x.tear(0) + x.at(0, 0) + x.fault(0) + 10 * x.findings(NOTHING), 21);
        e.gives("each by itself", x -> x.tear(0) + x.row(0, -1) + 10 * x.findings(NOTHING) + 10 * x.findings(SIZE), 14);
        e.gives("two that are missing count once", x -> x.copy(0, 0, 1, 0, 0) + 10 * x.findings(NOTHING), 7);
        e.gives("400 times", x -> {
            for (int i = 0; i < 400; i++) {
                x.tear(0);
            }
            return x.findings(NOTHING);
        }, 400);
        e.from(Furnished::night);
        e.gives("BEYOND", x -> x.put(2, 60, 0) + 10 * (x.findings(BEYOND) - e.fresh().findings(BEYOND)), 7);
        e.gives("UNLIKE", x -> x.mark(0, 1) + 10 * (x.findings(UNLIKE) - e.fresh().findings(UNLIKE)), 7);
        e.gives("NOUGHT", x -> x.mean(1) + 10 * (x.findings(NOUGHT) - e.fresh().findings(NOUGHT)), 7);
        e.gives("not BAD", x -> x.row(0, 41) + 10 * (x.findings(SIZE) - e.fresh().findings(SIZE)), BAD);
        e.promise(50, "BAD.");
        for (int f : new int[] {0, 6, -1, ShadowNight.FINDING, LEAST, MOST}) {
            e.bad("findings(" + f + ")", x -> x.findings(f));
        }
    }

    // ---- the digest

    /** As many of all as there can be; what digest() tells of it stands in digestOfFull(). */
    private static ShadowNight full() {
        ShadowNight x = new ShadowNight();
        for (int k = 0; k < 8; k++) {
            x.hide(k, 60 - k, 53 + k, 65535 - k);
        }
        x.lamp(60, 9);
        x.text(0, 60);
        String story = "AHb99!/1/1/1/1/1/1/1/1/1/1/abcdefgh1-99";
        for (int i = 0; i < story.length(); i++) {
            x.put(0, i, story.charAt(i));
        }
        x.story(0);
        for (int s = 8; s < 12; s++) {
            x.markScene(s, 10 * s, 999);
        }
        for (int k = 0; k < 8; k++) {
            x.need(11, k);
        }
        x.row(0, 8);
        x.lay(0, 7, 1);
        for (int sign = 0; sign < 8; sign++) {
            x.knock(sign, 0);
        }
        for (int m = 0; m < 40; m++) {
            x.moment(32000 - m, 3, m % 8, m % 2, m - 99);
        }
        for (int r = 0; r < 6; r++) {
            x.row(r, 40);
            x.lay(r, 39, r % 2 == 0 ? LEAST : MOST);
        }
        for (int t = 0; t < 4; t++) {
            x.text(t, 60);
            x.put(t, 0, 128 + t);
        }
        return x;
    }

    private static void add(List<Long> values, long... more) {
        for (long v : more) {
            values.add(v);
        }
    }

    private static long digestOf(List<Long> values) {
        long h = 17;
        for (long v : values) {
            h = 31 * h + v;
        }
        return h;
    }

    private static void addMissing(List<Long> values, int times) {
        for (int i = 0; i < times; i++) {
            values.add(-1L);
        }
    }

    private void promise51DigestOfNew() {
        e.promise(51, "h = 17; then h = 31 h + v for each v: count() 0 to 6; of each HIDE (-1 once: missing) about() 0 to 2; THE"
            + " LAMP d, g;");
        List<Long> values = new ArrayList<>();
        add(values, 0, 0, 0, 0, 0, 0, 0);
        addMissing(values, 8);
        add(values, 30, 2);
        addMissing(values, 8 + 6 + 4);
        e.from(ShadowNight::new);
        e.leaves("digest() of a new object", x -> x.digest(), digestOf(values));
        e.leaves("digest() twice", x -> x.digest() - x.digest(), 0);
        values.set(15, 2L);
        values.set(16, 0L);
        e.gives("digest() with another lamp", x -> x.lamp(2, 0) * x.digest(), digestOf(values));
    }

    private void promise51DigestOfFull() {
        e.promise(51, "of each scene scene() 0 to 4, a, b of its MARK (NONE twice: none), its NEEDS (bits); of each sign (-1 once:"
            + " none) how many knocks, these; of each MOMENT told() 0 to 4; of each ROW its size (-1: missing) and places, of"
            + " each TEXT likewise.");
        List<Long> values = new ArrayList<>();
        add(values, 6, 4, 8, 12, 8, 40, 40);
        for (int k = 0; k < 8; k++) {
            add(values, 60 - k, 53 + k, 65535 - k);
        }
        add(values, 60, 9);
        add(values, 0b10000011, 0b10000001, 99, 99, 1, NONE, NONE, 0);
        for (int s = 1; s < 11; s++) {
            add(values, 0, 0, 1, 1, 0, s < 8 ? NONE : 10 * s, s < 8 ? NONE : 999, 0);
        }
        add(values, 255, 0, 1, 99, 0, 110, 999, 255);
        for (int sign = 0; sign < 8; sign++) {
            add(values, 8, 0, 0, 0, 0, 0, 0, 0, 1);
        }
        for (int m = 0; m < 40; m++) {
            add(values, 3, 32000 - m, m % 8, m % 2, m - 99);
        }
        for (int r = 0; r < 6; r++) {
            add(values, 40);
            add(values, new long[39]);
            add(values, r % 2 == 0 ? LEAST : MOST);
        }
        for (int t = 0; t < 4; t++) {
            add(values, 60, -128 + t);
            for (int i = 1; i < 60; i++) {
                add(values, 32);
            }
        }
        e.from(EdgesOfTold::full);
        e.leaves("digest() of a full object, far beyond the greatest long", x -> x.digest(), digestOf(values));
    }

    /** What digest() tells of a new object behind some calls, if these alone change it. */
    private void digest(String call, Edges.Call made, int counted, int hides, long... others) {
        List<Long> values = new ArrayList<>();
        for (int what = 0; what <= 6; what++) {
            add(values, what == counted || counted == 56 && what >= 5 ? 1 : 0);
        }
        addMissing(values, hides);
        add(values, others);
        e.from(ShadowNight::new);
        e.gives("digest() behind " + call, x -> {
            made.on(x);
            return x.digest();
        }, digestOf(values));
    }

    private void promise51DigestParts() {
        e.promise(51, "of each HIDE (-1 once: missing) about() 0 to 2");
        digest("HIDE 0", x -> x.hide(0, 60, 1, 65535), 2, 0, 60, 1, 65535, -1, -1, -1, -1, -1, -1, -1, 30, 2, -1, -1, -1, -1, -1,
            -1, -1, -1, -1, -1, -1, -1, -1, -1, -1, -1, -1, -1);
        digest("HIDE 7", x -> x.hide(7, 1, 60, 1), 2, 7, 1, 60, 1, 30, 2, -1, -1, -1, -1, -1, -1, -1, -1, -1, -1, -1, -1, -1, -1,
            -1, -1, -1, -1);
        digest("a HIDE that is dropped again", x -> x.hide(7, 1, 60, 1) + x.drop(7), NONE, 8, 30, 2, -1, -1, -1, -1, -1, -1, -1,
            -1, -1, -1, -1, -1, -1, -1, -1, -1, -1, -1);
        e.promise(51, "of each MOMENT told() 0 to 4");
        digest("a note", x -> x.moment(32000, 0, 5, 6, 7), 5, 8, 30, 2, -1, -1, -1, -1, -1, -1, -1, -1, 0, 32000, NONE, 0, 0, -1,
            -1, -1, -1, -1, -1, -1, -1, -1, -1);
        digest("a HELD one of a HIDE that is missing now", x -> x.hide(2, 1, 1, 1) + x.moment(0, 1, 2, 1, 7) + x.drop(2), 56, 8,
            30, 2, -1, -1, -1, -1, -1, -1, -1, -1, 1, 0, 2, 1, 0, -1, -1, -1, -1, -1, -1, -1, -1, -1, -1);
        e.promise(51, "of each ROW its size (-1: missing) and places");
        digest("an empty ROW", x -> x.row(0, 0), 0, 8, 30, 2, -1, -1, -1, -1, -1, -1, -1, -1, 0, -1, -1, -1, -1, -1, -1, -1, -1,
            -1);
        digest("ROW 5", x -> x.row(5, 2) + x.lay(5, 0, LEAST), 0, 8, 30, 2, -1, -1, -1, -1, -1, -1, -1, -1, -1, -1, -1, -1, -1, 2,
            LEAST, 0, -1, -1, -1, -1);
        digest("a ROW that is torn again", x -> x.row(5, 2) + x.tear(5), NONE, 8, 30, 2, -1, -1, -1, -1, -1, -1, -1, -1, -1, -1,
            -1, -1, -1, -1, -1, -1, -1, -1);
        e.promise(51, "of each TEXT likewise");
        digest("an empty TEXT", x -> x.text(0, 0), 1, 8, 30, 2, -1, -1, -1, -1, -1, -1, -1, -1, -1, -1, -1, -1, -1, -1, 0, -1, -1,
            -1);
        digest("TEXT 3", x -> x.text(3, 2) + x.put(3, 0, 255), 1, 8, 30, 2, -1, -1, -1, -1, -1, -1, -1, -1, -1, -1, -1, -1, -1, -1,
            -1, -1, -1, 2, -1, 32);
        e.promise(51, "of each sign (-1 once: none) how many knocks, these");
        digest("sign 7", x -> x.row(0, 1) + x.knock(7, 0) + x.tear(0), 4, 8, 30, 2, -1, -1, -1, -1, -1, -1, -1, 1, 0, -1, -1, -1,
            -1, -1, -1, -1, -1, -1, -1);
        digest("a sign that has none again", x -> x.row(0, 1) + x.knock(7, 0) + x.knock(7, NONE) + x.tear(0), NONE, 8, 30, 2, -1,
            -1, -1, -1, -1, -1, -1, -1, -1, -1, -1, -1, -1, -1, -1, -1, -1, -1);
    }

    private void promise51DigestLeft() {
        e.promise(51, "a, b of its MARK (NONE twice: none), its NEEDS (bits)");
        e.gives("a MARK told again, alike", x -> changed(x, y -> y.markScene(2, 8, 12)), 0);
        e.gives("a MARK told again, another a", x -> changed(x, y -> y.markScene(2, 9, 12)), 1);
        e.gives("a MARK told again, another b", x -> changed(x, y -> y.markScene(2, 8, 13)), 1);
        e.gives("a MARK of another scene", x -> changed(x, y -> y.markScene(0, 0, 0)), 1);
        e.gives("a NEED told again", x -> changed(x, y -> y.need(5, 7)), 0);
        e.gives("another NEED", x -> changed(x, y -> y.need(5, 0)), 1);
        e.gives("story() again: MARKS, NEEDS go", x -> changed(x, y -> y.story(0)), 1);
        e.promise(51, "for each v:");
        e.keepsState("at", x -> x.at(0, 0));
        e.keepsState("mean", x -> x.mean(0));
        e.keepsState("about", x -> x.about(0, 0));
        e.keepsState("shadow", x -> x.shadow(0, 0, 0, 0));
        e.keepsState("place", x -> x.place(0, 11));
        e.keepsState("scene", x -> x.scene(0, 0));
        e.keepsState("takings", x -> x.takings());
        e.keepsState("best", x -> x.best());
        e.keepsState("begins", x -> x.begins(0, 0));
        e.keepsState("tale", x -> x.tale(1));
        e.keepsState("leastApart", x -> x.leastApart());
        e.keepsState("told", x -> x.told(0, 0));
        e.keepsState("broken", x -> x.broken(0, 0, 32000));
        e.keepsState("mistaken", x -> x.mistaken());
        e.keepsState("a FAULT read", x -> x.fault(2));
    }

    private static long changed(ShadowNight x, Edges.Call made) {
        long before = x.digest();
        made.on(x);
        return x.digest() == before ? 0 : 1;
    }
}
