import java.lang.reflect.Method;
import java.util.ArrayList;
import java.util.Arrays;
import java.util.HashMap;
import java.util.List;
import java.util.Map;
import java.util.Random;

/** Runs by chance of all calls on one object, each answer and all that is told compared with PlainNight's. */
public final class WholeRunsTest {
    private static final Expect EXPECT = new Expect("WholeRunsTest");
    private static final Random CHANCE = new Random(512L);
    private static final Map<String, Method> CALLS = new HashMap<>();
    private static final Map<String, Integer> ANSWERED = new HashMap<>();
    private static final int RUNS = 500;
    /** What the document promises of one object. */
    private static final int MOST_CALLS = 512;

    private ShadowNight x = new ShadowNight();
    private PlainNight plain = new PlainNight();
    private final List<String> run = new ArrayList<>();
    private int calls = 0;
    private boolean wrong = false;

    public static void main(String[] args) throws Exception {
        for (Method m : ShadowNight.class.getDeclaredMethods()) {
            if (java.lang.reflect.Modifier.isPublic(m.getModifiers())) {
                CALLS.put(m.getName(), m);
            }
        }
        for (int i = 0; i < RUNS; i++) {
            new WholeRunsTest().oneRun();
        }
        for (String name : CALLS.keySet()) {
            int often = ANSWERED.getOrDefault(name, 0);
            EXPECT.due(name + "() was answered, not refused, " + often + " times", often > 20 ? 1 : 0, 1);
        }
        EXPECT.end();
    }

    private void oneRun() throws Exception {
        if (CHANCE.nextInt(4) > 0) {
            furnish();
        }
        // a story takes up to 66 calls, and each step may look round with four more
        while (calls < MOST_CALLS - 70 && !wrong) {
            int what = CHANCE.nextInt(24);
            if (what == 0) {
                tellStory();
            } else if (what == 1) {
                layRow();
            } else if (what == 2) {
                knockSigns();
            } else if (what == 3) {
                orderTrunk();
            } else {
                anyCall();
            }
            lookRound();
        }
        EXPECT.due("calls on one object, " + calls, calls <= MOST_CALLS ? 1 : 0, 1);
    }

    // ---- one call on both

    private long both(String name, int... n) throws Exception {
        Method call = CALLS.get(name);
        Object[] numbers = new Object[n.length];
        for (int i = 0; i < n.length; i++) {
            boolean truth = call.getParameterTypes()[i] == boolean.class;
            numbers[i] = truth ? (Object) (n[i] != 0) : (Object) n[i];
        }
        String shown = name + Arrays.toString(n);
        run.add(shown);
        calls++;
        long due = plain.call(name, n);
        long got = ((Number) call.invoke(x, numbers)).longValue();
        EXPECT.due(shown, got, due);
        if (got != due && !wrong) {
            wrong = true;
            System.out.println("the run: " + run);
        }
        boolean free = name.equals("mark") || name.equals("digest");
        if (free || got > -1) {
            ANSWERED.merge(name, 1, Integer::sum);
        }
        return got;
    }

    private void lookRound() throws Exception {
        both("asked");
        both("digest");
        switch (CHANCE.nextInt(4)) {
            case 0:
                both("upper");
                both("lower");
                break;
            case 1:
                both("finding");
                both("findings", 1 + CHANCE.nextInt(5));
                break;
            default:
        }
    }

    // ---- what is told

    private static int upTo(int most) {
        return CHANCE.nextInt(most + 1);
    }

    /** A number 0 .. most, or now and then one beside, or any. */
    private static int near(int most) {
        int any = CHANCE.nextInt(60);
        if (any == 0) {
            return CHANCE.nextBoolean() ? -1 : most + 1;
        }
        if (any == 1) {
            int[] far = {Integer.MIN_VALUE, Integer.MAX_VALUE, -9, 1 << 16, -most, CHANCE.nextInt()};
            return far[CHANCE.nextInt(far.length)];
        }
        return any < 12 ? CHANCE.nextBoolean() ? 0 : most : upTo(most);
    }

    private void tellStory() throws Exception {
        String text = CHANCE.nextInt(4) == 0 ? anySigns() : scenes();
        int t = near(3);
        both("text", t, text.length());
        for (int i = 0; i < text.length(); i++) {
            if (text.charAt(i) != ' ') {
                both("put", t, i, text.charAt(i) + 256 * (upTo(2) - 1));
            }
        }
        both("fault", t);
        both("story", t);
    }

    private static String anySigns() {
        String likely = "abABcC0159-!/ /1 1" + (char) 225 + "iI";
        StringBuilder signs = new StringBuilder();
        for (int i = upTo(12); i > 0; i--) {
            signs.append(likely.charAt(CHANCE.nextInt(likely.length())));
        }
        return signs.toString();
    }

    private static String scenes() {
        int most = CHANCE.nextInt(4) == 0 ? 12 : 6;
        int hides = CHANCE.nextInt(8) == 0 ? 8 : 2 + upTo(3);
        int first = upTo(8 - hides);
        StringBuilder signs = new StringBuilder(CHANCE.nextInt(6) == 0 ? "  " : "");
        for (int s = 1 + upTo(most - 1); s > 0 && signs.length() < 50; s--) {
            List<Integer> those = new ArrayList<>();
            for (int k = 0; k < hides; k++) {
                those.add(first + k);
            }
            java.util.Collections.shuffle(those, CHANCE);
            int capitals = upTo(2);
            for (int k : those.subList(0, Math.min(upTo(hides), 4))) {
                signs.append((char) ((capitals-- > 0 ? 'A' : 'a') + k));
            }
            int least = 1 + upTo(CHANCE.nextInt(5) == 0 ? 98 : 8);
            signs.append(least);
            if (CHANCE.nextInt(3) > 0) {
                signs.append('-').append(Math.min(99, least + upTo(6)));
            }
            signs.append(CHANCE.nextInt(6) == 0 ? "!" : "").append(s > 1 ? "/" : "");
        }
        String end = signs.charAt(signs.length() - 1) == '/' ? "7" : "";
        return signs + end + (CHANCE.nextInt(6) == 0 ? " " : "");
    }

    private void furnish() throws Exception {
        for (int k = upTo(3); k < 8; k += 1 + upTo(1)) {
            both("hide", k, 1 + near(59), 1 + near(59), outline());
        }
        tellStory();
        for (int i = upTo(10); i > 0; i--) {
            both("moment", momentNumbers());
        }
    }

    private void knockSigns() throws Exception {
        for (int i = 1 + upTo(2); i > 0; i--) {
            int n = 1 + near(CHANCE.nextInt(4) == 0 ? 8 : 2);
            both("row", 2, n);
            for (int knock = 0; knock < Math.min(n, 8); knock++) {
                both("lay", 2, knock, near(1));
            }
            both("knock", near(7), 2);
        }
        both("clear");
        both("sure");
    }

    /** The least order, and one in which two places are changed for one another. */
    private void orderTrunk() throws Exception {
        int r = upTo(5);
        both("trunk", r);
        both("reaching", r);
        int one = upTo(4);
        int other = upTo(4);
        int[] values = new int[2];
        values[0] = both("at", r, one) == 1 ? (int) both("asked") : 0;
        values[1] = both("at", r, other) == 1 ? (int) both("asked") : 0;
        both("lay", r, one, values[1]);
        both("lay", r, other, values[0]);
        both("reaching", r);
    }

    private void layRow() throws Exception {
        int r = near(5);
        int n = CHANCE.nextInt(10) == 0 ? near(40) : near(8);
        both("row", r, n);
        int most = new int[] {1, 1, 8, 99}[upTo(3)];
        for (int i = 0; i < Math.min(n, 9); i++) {
            both("lay", r, i, near(most));
        }
    }

    // ---- any call, with numbers of the kinds that it looks at

    private void anyCall() throws Exception {
        String[] names = CALLS.keySet().toArray(new String[0]);
        Arrays.sort(names);
        String name = names[CHANCE.nextInt(names.length)];
        if (CHANCE.nextInt(6) == 0) {
            name = new String[] {"hide", "moment", "moment", "markScene", "need", "knock"}[upTo(5)];
        }
        both(name, numbersFor(name));
    }

    private int[] numbersFor(String name) throws Exception {
        int d = CHANCE.nextInt(3) == 0 ? 59 : 9;
        switch (name) {
            case "row": return new int[] {near(5), near(40)};
            case "lay": return new int[] {near(5), near(8), CHANCE.nextInt()};
            case "at": return new int[] {near(5), near(8)};
            case "copy": return new int[] {near(5), near(6), near(5), near(6), near(6)};
            case "tear": case "mean": case "reaching": case "trunk": case "shortest": return new int[] {near(5)};
            case "text": return new int[] {near(3), near(60)};
            case "put": return new int[] {near(3), near(9), CHANCE.nextInt()};
            case "hide": return new int[] {near(7), 1 + near(59), 1 + near(59), outline()};
            case "drop": case "matters": return new int[] {near(7)};
            case "lamp": return new int[] {2 + near(58), near(9)};
            case "about": return new int[] {near(7), near(3)};
            case "shadow": return new int[] {near(7), near(d), near(198) - 99, near(3)};
            case "covers": return new int[] {near(7), near(d), near(20) - 10, near(7), near(d), near(20) - 10};
            case "place": return new int[] {near(7), 1 + near(CHANCE.nextBoolean() ? 98 : 9998)};
            case "fault": case "story": return new int[] {near(3)};
            case "scene": return new int[] {near(5), near(4)};
            case "markScene": return markNumbers();
            case "need": return new int[] {near(5), near(7)};
            case "good": return new int[] {cut()};
            case "begins": return new int[] {cut(), near(5)};
            case "laughter": return new int[] {cut(), near(5)};
            case "tale": return new int[] {CHANCE.nextBoolean() ? 1 << upTo(7) | 1 << upTo(7) : near(255)};
            case "knock": return new int[] {near(7), CHANCE.nextInt(8) == 0 ? ShadowNight.NONE : near(5)};
            case "apart": return new int[] {near(7), near(7)};
            case "moment": return momentNumbers();
            case "told": return new int[] {near(8), near(4)};
            case "mark": return new int[] {near(8), near(6)};
            case "seen": return new int[] {near(16), upTo(1)};
            case "broken": return new int[] {near(7), near(20), CHANCE.nextBoolean() ? near(20) : near(32000)};
            case "count": return new int[] {near(6)};
            case "findings": return new int[] {1 + near(4)};
            default: return new int[0];
        }
    }

    private static int outline() {
        int[] some = {63, 27, 4369, 34952, 1, 65535, 63 ^ 1 << upTo(15), 27 ^ 1 << upTo(15)};
        return CHANCE.nextInt(4) == 0 ? 1 + near(65534) : some[upTo(some.length - 1)];
    }

    private static int[] markNumbers() {
        int s = near(5);
        int a = CHANCE.nextInt(8) == 0 ? near(999) : near(5 * Math.max(0, Math.min(s, 6)) + 4);
        return new int[] {s, a, CHANCE.nextInt(8) == 0 ? near(999) : a + near(12)};
    }

    private static int cut() {
        return CHANCE.nextInt(3) == 0 ? near(63) : 1 << upTo(3) & upTo(15);
    }

    private static int[] momentNumbers() {
        int kind = near(6);
        int second = CHANCE.nextInt(4) == 0 ? near(32000) : near(20);
        int most = kind == 2 || kind == 6 ? 9 : kind == 5 ? 7 : 1;
        return new int[] {second, kind, near(7), near(most), kind == 3 ? near(198) - 99 : near(7)};
    }
}
