import java.lang.reflect.InvocationTargetException;
import java.lang.reflect.Method;
import java.util.Arrays;
import java.util.function.Supplier;

/** What "Terms" says of all calls: refusals and their order, FINDINGS, fractions, sets. */
final class EdgesOfTerms {
    private static final int NOTHING = Edges.NOTHING, BEYOND = Edges.BEYOND, UNLIKE = Edges.UNLIKE;
    private static final int NOUGHT = Edges.NOUGHT, SIZE = Edges.SIZE, LEAST = Edges.LEAST, MOST = Edges.MOST;
    private static final int NONE = ShadowNight.NONE;
    /** Numbers that each parameter gets, one by one, in place of one that is taken. */
    private static final int[] ANY = {LEAST, LEAST + 1, -32769, -256, -100, -99, -33, -10, NONE, -8, -6, -4, -3, -2, -1, 0,
        1, 2, 3, 4, 5, 6, 7, 8, 9, 10, 12, 16, 17, 20, 31, 32, 33, 40, 41, 60, 61, 64, 99, 100, 255, 256, 999, 1000, 4095,
        4096, 9999, 10000, 32000, 32001, 65535, 65536, MOST - 1, MOST};
    private static final String[] PLAIN = {"asked", "upper", "lower", "finding", "digest"};
    private final Edges e;

    EdgesOfTerms(Edges edges) {
        e = edges;
    }

    void look() {
        refusals();
        refusalsInOrder();
        refusedChangesNothing();
        missingRows();
        missingTextsAndHides();
        otherFindings();
        fractions();
        sets();
    }

    private void refusals() {
        e.terms("Refused is, the first of these that fits, in this order:");
        e.due("BAD, FULL, STATE, FINDING are four", distinct(ShadowNight.BAD, ShadowNight.FULL, ShadowNight.STATE,
            ShadowNight.FINDING, ShadowNight.SPENT, ShadowNight.NONE), 6);
        e.bad("BAD and FINDING fit: BAD", x -> x.lay(6, LEAST, 0));
        e.terms("BAD -1 (a number that is none, or not as told),");
        e.due("BAD", ShadowNight.BAD, -1);
        e.bad("a ROW that is none", x -> x.tear(6));
        e.bad("a length not as told", x -> x.row(0, 41));
        e.terms("FULL -2,");
        e.due("FULL", ShadowNight.FULL, -2);
        e.from(Furnished::fortyMoments);
        e.full("a forty-first MOMENT", x -> x.moment(0, 0, 0, 0, 0));
        e.terms("STATE -4 (not now),");
        e.due("STATE", ShadowNight.STATE, -4);
        e.state("a TEXT with a FAULT", x -> x.story(2));
        e.terms("FINDING -3 (finding() tells which),");
        e.due("FINDING", ShadowNight.FINDING, -3);
        e.gives("finding()", x -> x.mean(1) == -3 ? x.finding() : 0, NOUGHT);
        e.terms("unless a call says so otherwise.");
        e.finds(NOTHING, "story(): STATE behind NOTHING", x -> x.story(3));
        e.finds(SIZE, "copy(): SIZE ahead of NOTHING", x -> x.copy(4, 0, 5, 0, -1));
        e.terms("NONE -9.");
        e.due("NONE", NONE, -9);
        e.leaves("NONE", x -> x.fault(0), NONE);
    }

    private static long distinct(int... values) {
        return Arrays.stream(values).distinct().count();
    }

    private void refusalsInOrder() {
        e.terms("in this order: BAD -1 (a number that is none, or not as told), FULL -2, STATE -4 (not now), FINDING -3"
            + " (finding() tells which)");
        e.bad("row(): BAD ahead of SIZE", x -> x.row(6, -1));
        e.bad("text(): BAD ahead of SIZE", x -> x.text(4, -1));
        e.bad("copy(): BAD ahead of SIZE", x -> x.copy(0, 0, 6, 0, -1));
        e.bad("about(): BAD ahead of NOTHING", x -> x.about(3, 4));
        e.bad("shadow(): BAD ahead of NOTHING", x -> x.shadow(3, 20, 0, 0));
        e.bad("covers(): BAD ahead of NOTHING", x -> x.covers(0, 0, 0, 3, 20, 0));
        e.bad("place(): BAD ahead of NOTHING", x -> x.place(3, 0));
        e.bad("story(): BAD ahead of STATE", x -> x.story(4));
        e.bad("knock(): BAD ahead of NOTHING", x -> x.knock(8, 4));
        e.bad("apart(): BAD ahead of NOTHING", x -> x.apart(3, 8));
        e.bad("moment(): BAD ahead of NOTHING", x -> x.moment(0, 1, 3, 2, 0));
        e.bad("mark(): BAD ahead of UNLIKE", x -> x.mark(0, 7));
        e.bad("mark(): KIND 0, ahead of UNLIKE", x -> x.mark(1, 0));
        e.from(Furnished::fourMarks);
        e.bad("markScene(): BAD ahead of FULL", x -> x.markScene(3, 1, 0));
        e.full("markScene(): FULL", x -> x.markScene(3, 0, 1));
        e.from(Furnished::fortyMoments);
        e.bad("moment(): BAD ahead of FULL", x -> x.moment(0, 1, 0, 2, 0));
        e.bad("moment(): BAD ahead of FULL and NOTHING", x -> x.moment(0, 1, 3, 2, 0));
        e.full("moment(): FULL ahead of NOTHING", x -> x.moment(0, 1, 3, 0, 0));
        e.full("moment(): FULL ahead of NOTHING of the other HIDE", x -> x.moment(0, 4, 0, 0, 3));
    }

    /** Numbers that a call takes on the object that a test begins with; a boolean is left out. */
    private static int[] taken(String call) {
        switch (call) {
            case "row": return new int[] {4, 3};
            case "lay": return new int[] {0, 1, 8};
            case "at": return new int[] {0, 2};
            case "copy": return new int[] {0, 0, 2, 1, 2};
            case "text": return new int[] {3, 9};
            case "put": return new int[] {0, 0, 66};
            case "hide": return new int[] {0, 5, 6, 7};
            case "lamp": return new int[] {40, 4};
            case "about": return new int[] {7, 3};
            case "shadow": return new int[] {7, 13, 5, 0};
            case "covers": return new int[] {7, 13, 5, 0, 3, 2};
            case "place": return new int[] {7, 50};
            case "scene": return new int[] {1, 3};
            case "markScene": return new int[] {1, 1, 9};
            case "need": return new int[] {1, 1};
            case "begins": return new int[] {1, 3};
            case "laughter": return new int[] {1, 1};
            case "knock": return new int[] {3, 3};
            case "apart": return new int[] {0, 7};
            case "moment": return new int[] {9, 4, 0, 1, 7};
            case "told": return new int[] {3, 4};
            case "mark": return new int[] {5, 5};
            case "broken": return new int[] {0, 1, 40};
            case "findings": case "reaching": case "shortest": return new int[] {3};
            default: return new int[] {0};
        }
    }

    private void refusedChangesNothing() {
        e.terms("What is refused changes nothing but finding(), findings().");
        for (Supplier<ShadowNight> objects : Arrays.<Supplier<ShadowNight>>asList(Furnished::night, Furnished::allThere,
            Furnished::fortyMoments, Furnished::fourMarks, ShadowNight::new)) {
            e.from(objects);
            for (Method call : ShadowNight.class.getDeclaredMethods()) {
                boolean isPublic = java.lang.reflect.Modifier.isPublic(call.getModifiers());
                if (isPublic && !Arrays.asList(PLAIN).contains(call.getName())) {
                    withAnyNumbers(call);
                }
            }
        }
    }

    private void withAnyNumbers(Method call) {
        Class<?>[] types = call.getParameterTypes();
        int[] good = taken(call.getName());
        Object[] numbers = new Object[types.length];
        for (int i = 0; i < types.length; i++) {
            numbers[i] = types[i] == int.class ? (Object) good[i] : (Object) Boolean.FALSE;
        }
        refusedOrNot(call, numbers);
        for (int i = 0; i < types.length; i++) {
            for (int any : types[i] == int.class ? ANY : new int[0]) {
                Object[] others = numbers.clone();
                others[i] = any;
                refusedOrNot(call, others);
            }
        }
    }

    private void refusedOrNot(Method call, Object[] numbers) {
        String told = call.getName() + Arrays.toString(numbers);
        long answer = made(call, e.fresh(), numbers);
        // of all calls here none answers a number below 0 without refusing, or NONE: mark() is not asked how far
        if (answer == ShadowNight.FINDING) {
            ShadowNight x = e.fresh();
            made(call, x, numbers);
            e.finds(x.finding(), told, y -> made(call, y, numbers));
        } else if (answer < 0) {
            e.leaves(told, y -> made(call, y, numbers), answer);
        } else {
            e.noFinding(told, y -> made(call, y, numbers));
        }
    }

    private static long made(Method call, ShadowNight x, Object[] numbers) {
        try {
            return ((Number) call.invoke(x, numbers)).longValue();
        } catch (InvocationTargetException | IllegalAccessException thrown) {
            throw new IllegalStateException(call.getName() + Arrays.toString(numbers), thrown);
        }
    }

    private void missingRows() {
        e.terms("FINDINGS: 1 NOTHING (a ROW,");
        e.finds(NOTHING, "lay", x -> x.lay(4, 0, 0));
        e.finds(NOTHING, "at", x -> x.at(4, 0));
        e.finds(NOTHING, "tear", x -> x.tear(4));
        e.finds(NOTHING, "copy", x -> x.copy(4, 0, 0, 0, 0));
        e.finds(NOTHING, "copy to", x -> x.copy(0, 0, 4, 0, 0));
        e.finds(NOTHING, "mean", x -> x.mean(4));
        e.finds(NOTHING, "reaching", x -> x.reaching(4));
        e.finds(NOTHING, "knock", x -> x.knock(0, 4));
        e.finds(NOTHING, "shortest", x -> x.shortest(4));
        e.gives("not an empty ROW", x -> x.tear(1), 1);
    }

    private void missingTextsAndHides() {
        e.terms("a TEXT,");
        e.finds(NOTHING, "put", x -> x.put(3, 0, 0));
        e.finds(NOTHING, "fault", x -> x.fault(3));
        e.finds(NOTHING, "story", x -> x.story(3));
        e.leaves("not an empty TEXT", x -> x.fault(1), 0);
        e.terms("a HIDE that is missing),");
        e.finds(NOTHING, "drop", x -> x.drop(3));
        e.finds(NOTHING, "about", x -> x.about(3, 0));
        e.finds(NOTHING, "shadow", x -> x.shadow(3, 0, 0, 0));
        e.finds(NOTHING, "covers", x -> x.covers(3, 0, 0, 0, 0, 0));
        e.finds(NOTHING, "covers the other", x -> x.covers(0, 0, 0, 3, 0, 0));
        e.finds(NOTHING, "place", x -> x.place(3, 1));
        e.finds(NOTHING, "apart", x -> x.apart(3, 0));
        e.finds(NOTHING, "apart the other", x -> x.apart(0, 3));
        e.finds(NOTHING, "matters", x -> x.matters(3));
        e.finds(NOTHING, "moment", x -> x.moment(0, 1, 3, 0, 0));
        e.finds(NOTHING, "moment against the other", x -> x.moment(0, 4, 0, 0, 3));
        e.gives("one that was there", x -> x.drop(0) + x.about(0, 0), 1 + ShadowNight.FINDING);
    }

    private void otherFindings() {
        e.terms("2 BEYOND (a place that there is not),");
        e.finds(BEYOND, "lay", x -> x.lay(0, 3, 0));
        e.finds(BEYOND, "at", x -> x.at(0, -1));
        e.finds(BEYOND, "copy", x -> x.copy(0, 1, 2, 0, 3));
        e.finds(BEYOND, "put", x -> x.put(2, 60, 0));
        e.terms("3 UNLIKE (a MOMENT of another KIND; a number that is none),");
        e.finds(UNLIKE, "mark of another KIND", x -> x.mark(0, 1));
        e.from(() -> Furnished.laying(0, 1, 2, 3, 4));
        e.finds(UNLIKE, "reaching: a HIDE that is none of THE STORY's", x -> x.reaching(0));
        e.finds(UNLIKE, "knock: neither 0 nor 1", x -> x.knock(0, 0));
        e.finds(UNLIKE, "shortest: 0 times", x -> x.shortest(0));
        e.terms("4 NOUGHT (shared among none),");
        e.finds(NOUGHT, "mean of none", x -> x.mean(1));
        e.terms("5 SIZE (fewer than none; not as many as due).");
        e.finds(SIZE, "row of fewer than none", x -> x.row(0, -1));
        e.finds(SIZE, "text of fewer than none", x -> x.text(0, -1));
        e.finds(SIZE, "copy of fewer than none", x -> x.copy(0, 0, 0, 0, -1));
        e.finds(SIZE, "reaching: not as many as THE STORY's", x -> x.reaching(0));
        e.finds(SIZE, "knock: not 1 to 8", x -> x.knock(0, 2));
        e.finds(SIZE, "shortest: not 1 to 8", x -> x.shortest(2));
    }

    private void fractions() {
        e.terms("Fractions are told by upper() (may be below 0) and lower(), in lowest terms, the lower number above 0 (0 by"
            + " 1).");
        e.fraction("below 0: -7 times 20 by 6", x -> x.shadow(0, 14, -7, 2), 1, -70, 3);
        e.fraction("above 0: 7 times 20 by 6", x -> x.shadow(0, 14, 7, 2), 1, 70, 3);
        e.fraction("0 by 1, not by 20", x -> x.shadow(0, 0, 0, 2), 1, 0, 1);
        e.fraction("0 by 1, of place()", x -> x.place(0, 11), 1, 0, 1);
        e.fraction("a whole number by 1", x -> x.shadow(0, 19, -1, 2), 1, -20, 1);
        for (int d = 2; d <= 60; d++) {
            ShadowNight x = new ShadowNight();
            x.hide(0, 48, 60, 1);
            x.lamp(d, 6);
            for (int z = 0; z < d; z++) {
                lowest("off at " + z + " of " + d, x, x.shadow(0, z, -36, 2), -36L * d, d - z);
                lowest("soft at " + z + " of " + d, x, x.shadow(0, z, -36, 3), 6L * z, d - z);
            }
        }
        for (int s = 60; s <= 9999; s += 71) {
            int wide = s;
            ShadowNight x = Furnished.night();
            int whole = x.place(1, wide);
            lowest("place(1, " + s + ")", x, 1, 20L * (s - 60), s);
            e.due("place(1, " + s + ") is whole", whole, 20L * (s - 60) % s == 0 ? 1 : 0);
        }
    }

    private void lowest(String call, ShadowNight x, int got, long above, long below) {
        e.due(call, got, 1);
        long upper = x.upper();
        long lower = x.lower();
        e.due(call + " is the same fraction", upper * below, lower * above);
        e.due(call + " lower() is above 0", lower > 0 ? 1 : 0, 1);
        long shared = 1;
        for (long f = 2; f <= lower; f++) {
            shared = lower % f == 0 && upper % f == 0 ? f : shared;
        }
        e.due(call + " is in lowest terms", shared, 1);
    }

    private void sets() {
        e.terms("Sets are told by bits.");
        e.tells("HIDES of a scene", x -> x.scene(5, 0), 1 | 1 << 7);
        e.tells("cells of an OUTLINE", x -> x.about(7, 2), 1 | 1 << 5 | 1 << 10 | 1 << 15);
        e.gives("scenes of a TALE", x -> x.tale(1 << 3 | 1 << 7), 1 << 3 | 1 << 4, 5);
        e.from(() -> Furnished.telling("1/1!/1/1!/1"));
        e.gives("scenes to cut", x -> x.good(1 | 1 << 2 | 1 << 4), 1);
        e.gives("scenes to cut, one with !", x -> x.good(1 | 1 << 3), 0);
    }
}
