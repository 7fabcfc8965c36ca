/** Counts the answers that are not as due, and ends a test by that. */
final class Due {
    static final String TOWN = "b20 m15 f05 r30 u09 s12 b40 w01 w12 w23 w14 w46 w25 w56 w03";
    static final int NOTHING = 1, BEYOND = 2, UNLIKE = 3, NOUGHT = 4, SIZE = 5;

    private static int looked;
    private static int wrong;

    private Due() {
    }

    static void is(String what, long got, long want) {
        looked++;
        if (got != want) {
            wrong++;
            System.out.println(what + " answered " + got + ", due is " + want);
        }
    }

    /** The answer is FINDING, and this one is both the latest one and counted once more. */
    static void finding(String what, DearLetters x, java.util.function.IntSupplier call, int which) {
        int before = x.findings(which);
        long digest = x.digest();
        int asked = x.asked();
        is(what, call.getAsInt(), DearLetters.FINDING);
        is(what + ": finding()", x.finding(), which);
        is(what + ": findings()", x.findings(which), before + 1);
        is(what + ": digest()", x.digest(), digest);
        is(what + ": asked()", x.asked(), asked);
    }

    /** The answer is this refusal, and nothing has changed, finding() and findings() neither. */
    static void refused(String what, DearLetters x, java.util.function.IntSupplier call, int refusal) {
        long digest = x.digest();
        int asked = x.asked();
        int finding = x.finding();
        int found = allFindings(x);
        is(what, call.getAsInt(), refusal);
        is(what + ": finding()", x.finding(), finding);
        is(what + ": all findings()", allFindings(x), found);
        is(what + ": digest()", x.digest(), digest);
        is(what + ": asked()", x.asked(), asked);
    }

    /** The answer is this one, and asked() tells that. */
    static void told(String what, DearLetters x, int got, int want, int asked) {
        is(what, got, want);
        is(what + ": asked()", x.asked(), asked);
    }

    private static int allFindings(DearLetters x) {
        int sum = 0;
        for (int f = 1; f <= 5; f++) {
            sum += x.findings(f);
        }
        return sum;
    }

    static void write(DearLetters x, int t, String s) {
        x.text(t, s.length());
        for (int i = 0; i < s.length(); i++) {
            x.put(t, i, s.charAt(i));
        }
    }

    static DearLetters town(String s) {
        DearLetters x = new DearLetters();
        write(x, 0, s);
        long bearers = s.chars().filter(c -> "bmfrus".indexOf(c) >= 0).count();
        is("town of " + s, x.town(0), bearers);
        return x;
    }

    static void fill(DearLetters x, int r, int... values) {
        x.row(r, values.length);
        for (int i = 0; i < values.length; i++) {
            x.lay(r, i, values[i]);
        }
    }

    static void rowIs(String what, DearLetters x, int r, int... values) {
        for (int i = 0; i < values.length; i++) {
            is(what + ", place " + i + " is there", x.at(r, i), 1);
            is(what + ", place " + i, x.asked(), values[i]);
        }
        is(what + " has no more", x.at(r, values.length), DearLetters.FINDING);
    }

    static void end(String test) {
        System.out.println(test + ": " + looked + " answers, " + wrong + " not as due");
        if (wrong != 0) {
            System.exit(1);
        }
    }
}
