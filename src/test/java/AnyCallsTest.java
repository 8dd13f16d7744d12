import java.lang.reflect.Method;
import java.util.ArrayList;
import java.util.Arrays;
import java.util.Comparator;
import java.util.List;
import java.util.Random;

/** Calls by chance with any numbers: none throws, and what is refused changes nothing but the FINDINGS. */
public final class AnyCallsTest {
    private static final Expect EXPECT = new Expect("AnyCallsTest");
    private static final Random CHANCE = new Random(4711L);
    private static final int[] EDGES = {0, 1, 2, 3, 4, 5, 6, 7, 8, 9, 10, 12, 16, 29, 30, 31, 32, 40, 41, 60, 61, 99, 100,
        255, 256, 999, 4095, 4096, 32000, 65535, 65536, -1, -2, -9, -99, -100, Integer.MAX_VALUE, Integer.MIN_VALUE};
    private static final String[] STORIES = {"aB3/bAC5-9/c2!/dab4-6/H1/AH9-20!", "abcdefgh9/1/ABcdefg3-7",
        "a1/b1/c1/d1/e1/f1/AB1/CD1/EF1/ab1/cd1/ef1", " 7 "};

    public static void main(String[] args) throws Exception {
        List<Method> calls = new ArrayList<>(Arrays.asList(ShadowNight.class.getDeclaredMethods()));
        calls.removeIf(m -> !java.lang.reflect.Modifier.isPublic(m.getModifiers()));
        calls.sort(Comparator.comparing(Method::getName));
        for (int run = 0; run < 400; run++) {
            ShadowNight x = new ShadowNight();
            ShadowNight same = new ShadowNight();
            if (run % 3 != 0) {
                furnish(x, run);
                furnish(same, run);
            }
            for (int i = 0; i < 300; i++) {
                Method call = calls.get(CHANCE.nextInt(calls.size()));
                Object[] numbers = numbersFor(call);
                oneCall(x, same, call, numbers);
            }
            EXPECT.due("the same calls, the same digest", x.digest(), same.digest());
        }
        EXPECT.end();
    }

    private static void furnish(ShadowNight x, int run) {
        for (int k = 0; k < 8; k += 1 + run % 2) {
            x.hide(k, k + 1, k + 2, 0x1234 + 777 * k);
        }
        Expect.tell(x, STORIES[run % STORIES.length]);
        Expect.lay(x, 0, 0, 1, 1);
        Expect.lay(x, 1, 0, 1, 2, 3, 7);
    }

    private static Object[] numbersFor(Method call) {
        Class<?>[] types = call.getParameterTypes();
        Object[] numbers = new Object[types.length];
        boolean wild = CHANCE.nextInt(4) == 0;
        for (int i = 0; i < types.length; i++) {
            if (types[i] == boolean.class) {
                numbers[i] = CHANCE.nextBoolean();
            } else {
                numbers[i] = wild ? EDGES[CHANCE.nextInt(EDGES.length)] : CHANCE.nextInt(9);
            }
        }
        return numbers;
    }

    private static void oneCall(ShadowNight x, ShadowNight same, Method call, Object[] numbers) throws Exception {
        String told = call.getName() + Arrays.toString(numbers);
        long digest = x.digest();
        int asked = x.asked();
        long upper = x.upper();
        long lower = x.lower();
        int finding = x.finding();
        int found = found(x);
        long answer;
        long again;
        try {
            answer = ((Number) call.invoke(x, numbers)).longValue();
            again = ((Number) call.invoke(same, numbers)).longValue();
        } catch (java.lang.reflect.InvocationTargetException e) {
            EXPECT.due(told + " threw " + e.getCause(), 1, 0);
            return;
        }
        EXPECT.due(told + " on another object", again, answer);
        boolean tellsAny = Arrays.asList("asked", "upper", "lower", "digest", "mark").contains(call.getName());
        if (tellsAny) {
            return;
        }
        if (answer < 0) {
            EXPECT.due(told + " refused, digest()", x.digest(), digest);
            EXPECT.due(told + " refused, asked()", x.asked(), asked);
            EXPECT.due(told + " refused, upper()", x.upper(), upper);
            EXPECT.due(told + " refused, lower()", x.lower(), lower);
        }
        EXPECT.due(told + " findings", found(x), found + (answer == ShadowNight.FINDING ? 1 : 0));
        if (answer != ShadowNight.FINDING) {
            EXPECT.due(told + " finding()", x.finding(), finding);
        }
    }

    private static int found(ShadowNight x) {
        int all = 0;
        for (int f = 1; f <= 5; f++) {
            all += x.findings(f);
        }
        return all;
    }
}
