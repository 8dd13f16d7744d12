/** Promises 39 to 44: moments. */
final class EdgesOfMoments {
    private static final int NOTHING = Edges.NOTHING, UNLIKE = Edges.UNLIKE;
    private static final int NONE = ShadowNight.NONE, LEAST = Edges.LEAST, MOST = Edges.MOST;
    private static final int[] OF_HIDES = {1, 2, 3, 4, 6};
    private final Edges e;

    EdgesOfMoments(Edges edges) {
        e = edges;
    }

    void look() {
        termsMoments();
        termsSeen();
        termsBroken();
        termsVoices();
        promise39Moment();
        promise39MomentNumbers();
        promise39MomentRefused();
        promise40Told();
        promise41Mark();
        promise41MarkRefused();
        promise42Seen();
        promise43Broken();
        promise43BrokenRefused();
        promise44Mistaken();
    }

    /** MOMENTS alone: second, KIND, HIDE, v, w of each, with eight HIDES far APART enough. */
    private void moments(int... numbers) {
        e.from(() -> {
            ShadowNight x = new ShadowNight();
            for (int k = 0; k < 8; k++) {
                x.hide(k, 1, 1, 1 << k);
            }
            for (int i = 0; i + 4 < numbers.length; i += 5) {
                x.moment(numbers[i], numbers[i + 1], numbers[i + 2], numbers[i + 3], numbers[i + 4]);
            }
            return x;
        });
    }

    private void termsMoments() {
        e.terms("MOMENTS 0, 1, .. (40 at most ever) are told for a second (0 .. 32000), of a KIND: 0 MOMENT (a note),");
        e.range("moment(v, 0, 0, 0, 0)", 0, 32000, (x, second) -> x.moment(second, 0, 0, 0, 0));
        e.range("moment(0, v, 0, 0, 7)", 0, 6, (x, kind) -> x.moment(0, kind, 0, 0, 7));
        moments();
        e.gives("the first", x -> x.moment(9, 0, 0, 0, 0), 0);
        e.gives("the second, of an earlier second", x -> x.moment(9, 0, 0, 0, 0) + x.moment(8, 0, 0, 0, 0), 1);
        e.from(Furnished::fortyMoments);
        e.full("a forty-first", x -> x.moment(0, 0, 0, 0, 0));
        e.terms("1 HELD (a MOMENT: a HIDE in a hand 0, 1),");
        e.range("moment(0, 1, 0, v, 0)", 0, 1, (x, hand) -> x.moment(0, 1, 0, hand, 0));
        e.terms("2 STUCK (a MOMENT: a HIDE at a spot 0 .. 9),");
        e.range("moment(0, 2, 0, v, 0)", 0, 9, (x, spot) -> x.moment(0, 2, 0, spot, 0));
        e.terms("3 WALKED (a HELD: by so far, -99 .. 99),");
        e.range("moment(0, 3, 0, v, 0)", 0, 1, (x, hand) -> x.moment(0, 3, 0, hand, 0));
        e.range("moment(0, 3, 0, 0, v)", -99, 99, (x, far) -> x.moment(0, 3, 0, 0, far));
        e.terms("4 FOUGHT (a HELD: against another HIDE),");
        e.range("moment(0, 4, 7, v, 0)", 0, 1, (x, hand) -> x.moment(0, 4, 7, hand, 0));
        e.from(Furnished::allThere);
        e.range("moment(0, 4, 3, 0, v)", 0, 7, (x, other) -> x.moment(0, 4, 3, 0, other));
        e.terms("5 KNOCKED (a MOMENT: a sign),");
        e.range("moment(0, 5, 0, v, 0)", 0, 7, (x, sign) -> x.moment(0, 5, 0, sign, 0));
        e.terms("6 SPOKEN (a MOMENT: by a HIDE in a voice 0 .. 9).");
        e.range("moment(0, 6, 0, v, 0)", 0, 9, (x, voice) -> x.moment(0, 6, 0, voice, 0));
    }

    private void termsSeen() {
        e.terms("BEHIND one sees all MOMENTS of HIDES that are there now (KINDS 1 to 4, 6), before just those of KINDS 1 to 4"
            + " of them of which the outline is APART from all other HIDES that there are by more than a told number.");
        e.from(Furnished::fortyMoments);
        e.leaves("behind: all but notes and knocks", x -> x.seen(0, true), 6);
        e.gives("behind: not those of a HIDE that is missing now", x -> x.drop(0) + 10 * x.seen(0, true), 21);
        e.gives("behind: of FOUGHT the one that is against is not looked at", x -> x.drop(2) + 10 * x.seen(0, true), 51);
        e.leaves("before: not the SPOKEN ones", x -> x.seen(0, false), 4);
        // APART from the nearest: HIDE 0 by 5, HIDE 1 by 10, HIDE 2 by 3
        e.leaves("before, more than 2", x -> x.seen(2, false), 4);
        e.leaves("before, not more than 3: without HIDE 2", x -> x.seen(3, false), 3);
        e.leaves("before, more than 4", x -> x.seen(4, false), 3);
        e.leaves("before, not more than 5: without HIDE 0", x -> x.seen(5, false), 1);
        e.leaves("before, more than 9", x -> x.seen(9, false), 1);
        e.leaves("before, not more than 10: without HIDE 1", x -> x.seen(10, false), 0);
        moments(0, 1, 0, 0, 0);
        e.leaves("the very first one, behind", x -> x.seen(0, true), 1);
        e.leaves("before: HIDE 3 is TURNED alike", x -> x.seen(0, false), 0);
        e.gives("the very first one, before", x -> x.drop(3) * x.seen(1, false), 1);
        e.from(Furnished::fortyMoments);
        e.gives("a HIDE that is gone is none of the others", x -> x.drop(0) + 10 * x.seen(11, false), 11);
    }

    private void termsBroken() {
        e.terms("BROKEN is a HIDE from a second for so long: MISSED are MOMENTS HELD (WALKED, FOUGHT, too; of FOUGHT both"
            + " HIDES) of it from that second on, ahead of that and so long.");
        moments(10, 1, 3, 0, 0, 10, 2, 3, 0, 0, 10, 3, 3, 0, 4, 10, 4, 3, 0, 4, 10, 5, 3, 3, 0, 10, 6, 3, 0, 0);
        e.gives("HELD, WALKED, FOUGHT", x -> x.broken(3, 10, 1), 3, 0);
        e.gives("FOUGHT against it; not WALKED by 4", x -> x.broken(4, 10, 1), 1, 3);
        e.gives("no other one", x -> x.broken(0, 10, 1), 0, NONE);
        e.gives("ahead of the second", x -> x.broken(3, 11, 32000), 0, NONE);
        e.gives("the last of the time", x -> x.broken(3, 9, 2), 3, 0);
        e.gives("just behind the time", x -> x.broken(3, 9, 1), 0, NONE);
        e.gives("for no time", x -> x.broken(3, 10, 0), 0, NONE);
    }

    private void mistaken(int due, int first, int... numbers) {
        moments(numbers);
        e.gives("mistaken of " + java.util.Arrays.toString(numbers), x -> x.mistaken(), due, first);
    }

    private void termsVoices() {
        e.terms("VOICES: a HIDE speaks in one voice alone: MISTAKEN are SPOKEN ones in another voice than the first (by"
            + " seconds, then told) of the HIDE, and those in a voice that an earlier one (likewise) gave to another HIDE.");
        mistaken(0, NONE, 1, 6, 0, 5, 0, 2, 6, 0, 5, 0);
        mistaken(1, 1, 1, 6, 0, 5, 0, 2, 6, 0, 4, 0);
        mistaken(1, 0, 2, 6, 0, 5, 0, 1, 6, 0, 4, 0);
        mistaken(1, 1, 1, 6, 0, 5, 0, 1, 6, 0, 4, 0);
        mistaken(2, 1, 1, 6, 0, 5, 0, 2, 6, 0, 4, 0, 3, 6, 0, 3, 0, 4, 6, 0, 5, 0);
        mistaken(1, 1, 1, 6, 0, 5, 0, 2, 6, 1, 5, 0);
        mistaken(1, 0, 2, 6, 0, 5, 0, 1, 6, 1, 5, 0);
        mistaken(1, 1, 1, 6, 0, 5, 0, 1, 6, 1, 5, 0);
        mistaken(0, NONE, 1, 6, 0, 0, 0, 1, 6, 1, 1, 0, 1, 6, 2, 2, 0, 1, 6, 7, 9, 0);
        // another voice than the first, and another HIDE's: it is still one
        mistaken(1, 2, 1, 6, 0, 5, 0, 2, 6, 1, 4, 0, 3, 6, 0, 4, 0);
        mistaken(0, NONE, 1, 1, 0, 1, 0, 1, 2, 1, 1, 0, 2, 3, 0, 0, 0, 3, 4, 1, 1, 0, 4, 5, 0, 1, 0);
    }

    private void promise39Moment() {
        e.promise(39, "A MOMENT of a KIND: its number.");
        for (int kind = 0; kind <= 6; kind++) {
            int one = kind;
            e.gives("KIND " + kind, x -> x.moment(0, one, 0, 0, 7), 8);
        }
        e.gives("count(5) behind it", x -> x.moment(0, 0, 0, 0, 0) + 10 * x.count(5), 98);
        e.gives("asked() stays", x -> x.moment(0, 1, 0, 0, 0), 8, -6);
        e.promise(39, "HIDE (of KINDS 0, 5 not looked at; else it has to be there), v and w:");
        for (int k : new int[] {-1, 3, 8, NONE, LEAST, MOST}) {
            e.gives("KIND 0, HIDE " + k, x -> x.moment(0, 0, k, 0, 0), 8);
            e.gives("KIND 5, HIDE " + k, x -> x.moment(0, 5, k, 0, 0), 8);
        }
        for (int kind : OF_HIDES) {
            e.finds(NOTHING, "KIND " + kind + ", HIDE 3", x -> x.moment(0, kind, 3, 0, 7));
        }
        e.from(Furnished::allThere);
        for (int kind : OF_HIDES) {
            int other = kind == 4 ? 3 : 0;
            e.range("moment(0, " + kind + ", v, 0, " + other + ")", 0, 7, (x, k) -> x.moment(0, kind, k, 0, other));
        }
    }

    private void promise39MomentNumbers() {
        e.promise(39, "HELD the hand");
        e.range("moment(0, 1, 7, v, 0)", 0, 1, (x, v) -> x.moment(0, 1, 7, v, 0));
        e.promise(39, "STUCK the spot");
        e.range("moment(0, 2, 7, v, 0)", 0, 9, (x, v) -> x.moment(0, 2, 7, v, 0));
        e.promise(39, "WALKED the hand, how far");
        e.range("moment(0, 3, 7, v, 99)", 0, 1, (x, v) -> x.moment(0, 3, 7, v, 99));
        e.range("moment(0, 3, 7, 1, v)", -99, 99, (x, w) -> x.moment(0, 3, 7, 1, w));
        e.promise(39, "FOUGHT the hand, the other HIDE (not itself; there)");
        e.range("moment(0, 4, 7, v, 0)", 0, 1, (x, v) -> x.moment(0, 4, 7, v, 0));
        e.bad("itself", x -> x.moment(0, 4, 7, 0, 7));
        e.bad("itself, though it is missing", x -> x.moment(0, 4, 3, 0, 3));
        e.bad("no HIDE", x -> x.moment(0, 4, 7, 0, 8));
        e.bad("no HIDE", x -> x.moment(0, 4, 7, 0, -1));
        e.bad("no HIDE, the greatest", x -> x.moment(0, 4, 7, 0, MOST));
        e.bad("no HIDE, the least", x -> x.moment(0, 4, 7, 0, LEAST));
        e.finds(NOTHING, "the other one is missing", x -> x.moment(0, 4, 7, 0, 3));
        e.promise(39, "KNOCKED the sign 0 .. 7");
        e.range("moment(0, 5, 0, v, 0)", 0, 7, (x, v) -> x.moment(0, 5, 0, v, 0));
        e.promise(39, "SPOKEN the voice");
        e.range("moment(0, 6, 7, v, 0)", 0, 9, (x, v) -> x.moment(0, 6, 7, v, 0));
        e.promise(39, "others are not looked at (0).");
        for (int any : new int[] {-1, 100, LEAST, MOST}) {
            e.tells("note, v " + any, x -> x.moment(0, 0, 0, any, 0) - 7 + x.told(8, 3) - 1, 0);
            for (int kind : new int[] {0, 1, 2, 5, 6}) {
                e.tells("KIND " + kind + ", w " + any, x -> x.moment(0, kind, 0, 1, any) - 7 + x.told(8, 4) - 1, 0);
            }
        }
    }

    private void promise39MomentRefused() {
        e.promise(39, "BAD");
        e.range("moment(v, 1, 0, 0, 0)", 0, 32000, (x, second) -> x.moment(second, 1, 0, 0, 0));
        e.range("moment(0, v, 0, 0, 7)", 0, 6, (x, kind) -> x.moment(0, kind, 0, 0, 7));
        e.bad("a second, ahead of NOTHING", x -> x.moment(-1, 1, 3, 0, 0));
        e.bad("a hand, ahead of NOTHING", x -> x.moment(0, 1, 3, 2, 0));
        e.bad("so far, ahead of NOTHING", x -> x.moment(0, 3, 3, 0, 100));
        e.bad("the other HIDE, ahead of NOTHING", x -> x.moment(0, 4, 3, 0, 8));
        e.from(Furnished::fortyMoments);
        e.bad("a second, ahead of FULL", x -> x.moment(32001, 0, 0, 0, 0));
        e.bad("a KIND, ahead of FULL", x -> x.moment(0, 7, 0, 0, 0));
        e.bad("a HIDE, ahead of FULL", x -> x.moment(0, 1, 8, 0, 0));
        e.bad("a voice, ahead of FULL", x -> x.moment(0, 6, 0, 10, 0));
        e.promise(39, "FULL");
        e.from(Furnished::fortyMoments);
        for (int kind = 0; kind <= 6; kind++) {
            int one = kind;
            e.full("a forty-first, KIND " + kind, x -> x.moment(0, one, 0, 0, 7));
        }
        e.full("FULL ahead of NOTHING", x -> x.moment(0, 1, 3, 0, 0));
        e.full("FULL ahead of NOTHING", x -> x.moment(0, 4, 0, 0, 3));
        moments();
        e.gives("forty are taken", x -> {
            int last = NONE;
            for (int m = 0; m < 40; m++) {
                last = x.moment(m, m % 7, 0, 0, 1);
            }
            return last;
        }, 39);
        e.promise(39, "NOTHING: a HIDE.");
        e.finds(NOTHING, "the one", x -> x.moment(0, 4, 3, 0, 0));
        e.finds(NOTHING, "the other", x -> x.moment(0, 4, 0, 0, 3));
        e.finds(NOTHING, "both: once", x -> x.moment(0, 4, 3, 0, 4));
        e.gives("w is no HIDE of a WALKED one", x -> x.moment(0, 3, 0, 0, 3), 8);
    }

    private void promise40Told() {
        e.promise(40, "Of a MOMENT: 0 its KIND, 1 second, 2 HIDE (NONE), 3 v, 4 w, told by asked(): 1.");
        int[][] due = {{0, 10, NONE, 0, 0}, {1, 20, 0, 1, 0}, {2, 30, 1, 9, 0}, {3, 30, 2, 0, -40}, {4, 40, 0, 1, 2},
            {5, 5, NONE, 7, 0}, {6, 60, 0, 4, 0}, {6, 50, 0, 5, 0}};
        for (int m = 0; m < due.length; m++) {
            for (int what = 0; what < 5; what++) {
                int moment = m;
                int asked = what;
                e.tells("told(" + m + ", " + what + ")", x -> x.told(moment, asked), due[m][what]);
            }
        }
        e.tells("a HIDE that is missing now", x -> x.drop(0) * x.told(1, 2), 0);
        e.tells("the last second", x -> x.moment(32000, 0, 0, 0, 0) - 7 + x.told(8, 1) - 1, 32000);
        e.promise(40, "BAD.");
        e.range("told(v, 0) of eight", 0, 7, (x, m) -> x.told(m, 0));
        e.range("told(7, v)", 0, 4, (x, what) -> x.told(7, what));
        e.from(Furnished::fortyMoments);
        e.range("told(v, 0) of forty", 0, 39, (x, m) -> x.told(m, 0));
        e.from(ShadowNight::new);
        e.bad("told(0, 0) of none", x -> x.told(0, 0));
    }

    private void promise41Mark() {
        e.promise(41, "What a MOMENT that IS of a KIND tells: a HELD one (WALKED, FOUGHT, too) its hand");
        e.leaves("HELD", x -> x.mark(1, 1), 1);
        e.leaves("WALKED", x -> x.mark(3, 1), 0);
        e.leaves("FOUGHT", x -> x.mark(4, 1), 1);
        e.promise(41, "a STUCK one its spot");
        e.leaves("STUCK", x -> x.mark(2, 2), 9);
        e.promise(41, "a WALKED one how far");
        e.leaves("WALKED", x -> x.mark(3, 3), -40);
        e.gives("as far as can be", x -> x.moment(0, 3, 0, 0, -99) + x.mark(8, 3), 8 - 99);
        e.gives("as far as can be", x -> x.moment(0, 3, 0, 0, 99) + x.mark(8, 3), 8 + 99);
        e.promise(41, "a FOUGHT one the other HIDE");
        e.leaves("FOUGHT", x -> x.mark(4, 4), 2);
        e.gives("though it is missing now", x -> x.drop(2) + 10 * x.mark(4, 4), 21);
        e.promise(41, "a KNOCKED one how many knocks its sign has (0: none)");
        e.leaves("KNOCKED", x -> x.mark(5, 5), 1);
        e.gives("as it has them now", x -> x.lay(0, 0, 0) + x.lay(0, 1, 1) + x.lay(0, 2, 1) + x.knock(7, 0)
            + 10 * x.mark(5, 5), 36);
        e.gives("none", x -> x.knock(7, NONE) + x.mark(5, 5), 0);
        e.promise(41, "a SPOKEN one its voice.");
        e.leaves("SPOKEN", x -> x.mark(6, 6), 4);
        e.leaves("SPOKEN", x -> x.mark(7, 6), 5);
    }

    private void promise41MarkRefused() {
        e.promise(41, "BAD: also KIND 0");
        for (int m = 0; m < 8; m++) {
            int moment = m;
            e.bad("mark(" + m + ", 0)", x -> x.mark(moment, 0));
        }
        for (int kind : new int[] {-1, 7, LEAST, MOST}) {
            e.bad("mark(0, " + kind + ")", x -> x.mark(0, kind));
        }
        for (int m : new int[] {-1, 8, LEAST, MOST}) {
            e.bad("mark(" + m + ", 1)", x -> x.mark(m, 1));
        }
        e.from(Furnished::fortyMoments);
        e.finds(UNLIKE, "the last of forty", x -> x.mark(39, 1));
        e.bad("a forty-first", x -> x.mark(40, 1));
        e.from(ShadowNight::new);
        e.bad("mark(0, 1) of none", x -> x.mark(0, 1));
        e.promise(41, "UNLIKE.");
        int[] kinds = {0, 1, 2, 3, 4, 5, 6, 6};
        for (int m = 0; m < kinds.length; m++) {
            for (int kind = 1; kind <= 6; kind++) {
                int moment = m;
                int other = kind;
                boolean is = kind == kinds[m] || kind == 1 && (kinds[m] == 3 || kinds[m] == 4);
                if (!is) {
                    e.finds(UNLIKE, "mark(" + m + ", " + kind + ")", x -> x.mark(moment, other));
                }
            }
        }
    }

    private void promise42Seen() {
        e.promise(42, "How many MOMENTS one sees before THE CLOTH by n (0 .. 16; behind: there, whatever n).");
        e.range("seen(v, false)", 0, 16, (x, n) -> x.seen(n, false));
        e.range("seen(v, true)", 0, 16, (x, n) -> x.seen(n, true));
        e.leaves("behind, by 0", x -> x.seen(0, true), 6);
        e.leaves("behind, by 16", x -> x.seen(16, true), 6);
        e.leaves("before, by 0", x -> x.seen(0, false), 4);
        e.leaves("before, by 16", x -> x.seen(16, false), 0);
        e.from(() -> {
            ShadowNight x = Furnished.outlines(0x00FF, 0xFF00);
            return x;
        });
        e.leaves("16 APART is more than 15", x -> x.seen(15, false), 3);
        e.leaves("16 APART is not more than 16", x -> x.seen(16, false), 0);
        e.from(() -> Furnished.outlines(0x0001));
        e.leaves("alone: no other HIDE there is", x -> x.seen(16, false), 2);
        e.from(() -> Furnished.outlines(0x0001, 0x0008));
        e.leaves("TURNED alike: not more than 0", x -> x.seen(0, false), 0);
        e.from(() -> Furnished.outlines());
        e.leaves("no HIDES, behind", x -> x.seen(0, true), 0);
        e.from(ShadowNight::new);
        e.leaves("no MOMENTS, behind", x -> x.seen(0, true), 0);
        e.leaves("no MOMENTS, before", x -> x.seen(0, false), 0);
        e.promise(42, "BAD.");
        e.range("seen(v, false)", 0, 16, (x, n) -> x.seen(n, false));
        e.range("seen(v, true)", 0, 16, (x, n) -> x.seen(n, true));
    }

    private void promise43Broken() {
        e.promise(43, "How many MOMENTS are MISSED, a HIDE BROKEN from a second (0 .. 32000) for so long (0 .. 32000)");
        e.range("broken(0, v, 0)", 0, 32000, (x, from) -> x.broken(0, from, 0));
        e.range("broken(0, 0, v)", 0, 32000, (x, time) -> x.broken(0, 0, time));
        e.gives("all", x -> x.broken(0, 0, 32000), 2, 1);
        moments(0, 1, 0, 0, 0, 32000, 1, 0, 0, 0);
        e.gives("from 0, for 1", x -> x.broken(0, 0, 1), 1, 0);
        e.gives("from 0, for 32000: not second 32000", x -> x.broken(0, 0, 32000), 1, 0);
        e.gives("from 1, for 31999: not second 32000", x -> x.broken(0, 1, 31999), 0, NONE);
        e.gives("from 1, for 32000: second 32000", x -> x.broken(0, 1, 32000), 1, 1);
        e.gives("from 32000, for 32000", x -> x.broken(0, 32000, 32000), 1, 1);
        e.gives("from 32000, for 1", x -> x.broken(0, 32000, 1), 1, 1);
        e.gives("from 32000, for 0", x -> x.broken(0, 32000, 0), 0, NONE);
        e.gives("a HIDE that is missing now", x -> x.drop(0) * x.broken(0, 0, 1), 1, 0);
        e.promise(43, "the first by asked() (NONE).");
        e.gives("NONE", x -> x.broken(7, 0, 32000), 0, NONE);
        e.gives("that is against it", x -> x.broken(2, 31, 32000), 1, 4);
        moments(20, 1, 0, 0, 0, 10, 1, 0, 0, 0);
        e.gives("the first told", x -> x.broken(0, 0, 32000), 2, 0);
        e.from(ShadowNight::new);
        e.gives("no MOMENTS", x -> x.broken(0, 0, 32000), 0, NONE);
    }

    private void promise43BrokenRefused() {
        e.promise(43, "BAD.");
        e.from(Furnished::allThere);
        e.range("broken(v, 0, 0)", 0, 7, (x, k) -> x.broken(k, 0, 0));
        e.range("broken(0, v, 32000)", 0, 32000, (x, from) -> x.broken(0, from, 32000));
        e.range("broken(0, 32000, v)", 0, 32000, (x, time) -> x.broken(0, 32000, time));
        e.bad("HIDE NONE", x -> x.broken(NONE, 0, 0));
        e.from(Furnished::night);
        e.gives("a HIDE that is missing is not refused", x -> x.broken(3, 0, 32000), 0, NONE);
    }

    private void promise44Mistaken() {
        e.promise(44, "How many SPOKEN MOMENTS are MISTAKEN");
        e.gives("one", x -> x.mistaken(), 1, 6);
        e.gives("whether its HIDE is there or not", x -> x.drop(0) * x.mistaken(), 1, 6);
        moments();
        e.gives("39 of 40", x -> {
            for (int m = 0; m < 40; m++) {
                x.moment(40 - m, 6, 0, m == 39 ? 9 : 1, 0);
            }
            return x.mistaken();
        }, 39, 38);
        e.promise(44, "the first (by seconds, then told) by asked() (NONE).");
        mistaken(0, NONE);
        mistaken(0, NONE, 1, 6, 0, 5, 0);
        mistaken(2, 1, 1, 6, 0, 5, 0, 2, 6, 0, 4, 0, 2, 6, 0, 3, 0);
        mistaken(2, 2, 1, 6, 0, 5, 0, 3, 6, 0, 4, 0, 2, 6, 0, 3, 0);
        mistaken(2, 0, 32000, 6, 0, 5, 0, 32000, 6, 0, 5, 0, 0, 6, 1, 5, 0);
    }
}
