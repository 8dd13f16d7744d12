import java.io.IOException;
import java.util.ArrayList;
import java.util.List;
import java.util.function.Supplier;

/**
 * Looks at what sentences of DOC.md name: each check is made for the sentence quoted last, on an object of its own
 * (so none comes near its 512th call), and each word of the document has to be quoted at last.
 */
final class Edges {
    static final int NOTHING = 1, BEYOND = 2, UNLIKE = 3, NOUGHT = 4, SIZE = 5;
    static final int MOST = Integer.MAX_VALUE, LEAST = Integer.MIN_VALUE;

    interface Call {
        long on(ShadowNight x);
    }

    interface Numbered {
        long on(ShadowNight x, int v);
    }

    private final Document document = new Document();
    private Supplier<ShadowNight> start = Furnished::night;
    private String sentence = "";
    private int sentences = 0;
    private int lookedForSentence = 1;
    private int looked = 0;
    private int wrong = 0;

    Edges() throws IOException {
        if (document.size() != 52) {
            complain("DOC.md has " + document.size() + " of Terms and 51 promises");
        }
    }

    // ---- which sentence

    void terms(String words) {
        quote(0, "Terms", words);
    }

    void promise(int number, String words) {
        quote(number, "Promise " + number, words);
    }

    private void quote(int number, String name, String words) {
        endSentence();
        sentence = name + ", '" + words + "'";
        sentences++;
        lookedForSentence = 0;
        if (!document.quote(number, words)) {
            complain("is not in DOC.md");
        }
        start = Furnished::night;
    }

    private void endSentence() {
        if (lookedForSentence == 0) {
            complain("no test");
        }
    }

    private void complain(String what) {
        wrong++;
        System.out.println(sentence + ": " + what);
    }

    /** The object that checks of this sentence begin with, from here on. */
    void from(Supplier<ShadowNight> objects) {
        start = objects;
    }

    ShadowNight fresh() {
        return start.get();
    }

    // ---- what is due

    void due(String call, long got, long want) {
        looked++;
        lookedForSentence++;
        if (got != want) {
            complain(call + " answered " + got + ", due is " + want);
        }
    }

    void gives(String call, Call made, long want) {
        due(call, made.on(fresh()), want);
    }

    /** A call that answers 1 and tells a number by asked(). */
    void tells(String call, Call made, int asked) {
        gives(call, made, 1, asked);
    }

    /** A call that answers a number and tells another one by asked(). */
    void gives(String call, Call made, long want, int asked) {
        ShadowNight x = fresh();
        due(call, made.on(x), want);
        due(call + " asked()", x.asked(), asked);
    }

    void fraction(String call, Call made, long want, long upper, long lower) {
        ShadowNight x = fresh();
        due(call, made.on(x), want);
        due(call + " upper()", x.upper(), upper);
        due(call + " lower()", x.lower(), lower);
    }

    void bad(String call, Call made) {
        leaves(call, made, ShadowNight.BAD);
    }

    void full(String call, Call made) {
        leaves(call, made, ShadowNight.FULL);
    }

    void state(String call, Call made) {
        leaves(call, made, ShadowNight.STATE);
    }

    /** A call that answers so and changes nothing at all. */
    void leaves(String call, Call made, long want) {
        ShadowNight x = fresh();
        long[] before = everything(x);
        due(call, made.on(x), want);
        same(call, before, everything(x));
    }

    /** A call that answers FINDING, counts it, and changes nothing else. */
    void finds(int finding, String call, Call made) {
        ShadowNight x = fresh();
        long[] before = everything(x);
        due(call, made.on(x), ShadowNight.FINDING);
        before[4] = finding;
        before[4 + finding]++;
        same(call, before, everything(x));
    }

    /** A call that is not refused and tells nothing by asked(), upper(), lower(), finding(), findings(). */
    void quiet(String call, Call made) {
        ShadowNight x = fresh();
        long[] before = everything(x);
        made.on(x);
        before[0] = x.digest();
        same(call, before, everything(x));
    }

    /** A call that is not refused: whatever it changes, FINDINGS stay as they were. */
    void noFinding(String call, Call made) {
        ShadowNight x = fresh();
        long[] before = everything(x);
        made.on(x);
        long[] after = everything(x);
        System.arraycopy(after, 0, before, 0, 4);
        same(call, before, after);
    }

    /** A call that may tell something, but leaves all that digest() sees as it was. */
    void keepsState(String call, Call made) {
        ShadowNight x = fresh();
        long digest = x.digest();
        long answer = made.on(x);
        due(call + " is not BAD", answer == ShadowNight.BAD ? 1 : 0, 0);
        due(call + " digest()", x.digest(), digest);
    }

    /** The numbers from least to most are taken, those beyond are BAD. */
    void range(String call, int least, int most, Numbered made) {
        taken(call, least, most, made);
        for (int v : beyond(least, most)) {
            bad(call + " with " + v, x -> made.on(x, v));
        }
    }

    /** The numbers from least to most are taken, those beyond are a FINDING. */
    void rangeFinds(int finding, String call, int least, int most, Numbered made) {
        taken(call, least, most, made);
        for (int v : beyond(least, most)) {
            finds(finding, call + " with " + v, x -> made.on(x, v));
        }
    }

    private void taken(String call, int least, int most, Numbered made) {
        for (int v : new int[] {least, most}) {
            long answer = made.on(fresh(), v);
            due(call + " with " + v + " (" + answer + ") is taken", answer >= 0 ? 1 : 0, 1);
        }
    }

    private static int[] beyond(int least, int most) {
        return new int[] {least - 1, most + 1, LEAST, MOST};
    }

    private static long[] everything(ShadowNight x) {
        long[] all = new long[10];
        all[0] = x.digest();
        all[1] = x.asked();
        all[2] = x.upper();
        all[3] = x.lower();
        all[4] = x.finding();
        for (int f = NOTHING; f <= SIZE; f++) {
            all[4 + f] = x.findings(f);
        }
        return all;
    }

    private void same(String call, long[] due, long[] got) {
        String[] names = {"digest()", "asked()", "upper()", "lower()", "finding()", "findings(1)", "findings(2)",
            "findings(3)", "findings(4)", "findings(5)"};
        for (int i = 0; i < due.length; i++) {
            due(call + " and then " + names[i], got[i], due[i]);
        }
    }

    void end() {
        endSentence();
        sentence = "DOC.md";
        List<String> left = new ArrayList<>(document.left());
        for (String words : left) {
            complain("no test quotes " + words);
        }
        System.out.println("EdgesTest: " + sentences + " sentences, " + looked + " answers, " + wrong + " not as due");
        if (wrong != 0) {
            System.exit(1);
        }
    }
}
