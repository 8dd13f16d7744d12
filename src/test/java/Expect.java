/** Counts answers that are not the ones due, and ends a test with exit code 1 if there was one. */
final class Expect {
    private final String test;
    private int looked = 0;
    private int wrong = 0;

    Expect(String test) {
        this.test = test;
    }

    void due(String call, long got, long want) {
        looked++;
        if (got != want) {
            wrong++;
            System.out.println(test + ": " + call + " answered " + got + ", due is " + want);
        }
    }

    /** A call that is refused with a FINDING: which, and that it is counted once. */
    void finds(ShadowNight x, String call, int before, int got, int finding) {
        due(call, got, ShadowNight.FINDING);
        due(call + " finding()", x.finding(), finding);
        due(call + " findings(" + finding + ")", x.findings(finding), before + 1);
    }

    /** A call that answers 1 and tells a number by asked(). */
    void asks(ShadowNight x, String call, int got, int asked) {
        due(call, got, 1);
        due(call + " asked()", x.asked(), asked);
    }

    void fraction(ShadowNight x, String call, int got, int want, long upper, long lower) {
        due(call, got, want);
        due(call + " upper()", x.upper(), upper);
        due(call + " lower()", x.lower(), lower);
    }

    /** Lays a TEXT by its signs. */
    static void write(ShadowNight x, int t, String signs) {
        x.text(t, signs.length());
        for (int i = 0; i < signs.length(); i++) {
            x.put(t, i, signs.charAt(i));
        }
    }

    static int tell(ShadowNight x, String signs) {
        write(x, 0, signs);
        return x.story(0);
    }

    static void lay(ShadowNight x, int r, int... values) {
        x.row(r, values.length);
        for (int i = 0; i < values.length; i++) {
            x.lay(r, i, values[i]);
        }
    }

    static int look(ShadowNight x, int r, int i) {
        return x.at(r, i) == 1 ? x.asked() : Integer.MIN_VALUE;
    }

    void end() {
        System.out.println(test + ": " + looked + " answers, " + wrong + " not as due");
        if (wrong != 0) {
            System.exit(1);
        }
    }
}
