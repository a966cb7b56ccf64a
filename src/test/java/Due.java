import java.util.function.IntSupplier;

/** What every test uses: calls whose answer is not the one that is due are printed, and end it with exit code 1. */
final class Due {
    private static int calls;
    private static int wrong;
    private static String sentence = "";

    private Due() {
    }

    /** The test of one sentence of the document; what is not as due in it is printed with the sentence. */
    static void sentence(String words, Runnable test) {
        int before = calls;
        sentence = "[" + words + "] ";
        try {
            test.run();
        } catch (RuntimeException e) {
            is("a call threw " + e + ", which", 1, 0);
        }
        is("the sentence is tested", calls > before ? 1 : 0, 1);
        sentence = "";
    }

    static void is(String call, long got, long want) {
        calls++;
        if (got != want) {
            wrong++;
            System.out.println(sentence + call + " answered " + got + ", due is " + want);
        }
    }

    /** The call answers 1 and tells the wanted by asked(). */
    static void tells(String call, RindDates x, long got, long want) {
        is(call, got, 1);
        is(call + " by asked()", x.asked(), want);
    }

    /** The call answers 1 and tells the wanted by upper() and lower(). */
    static void parts(String call, RindDates x, long got, long upper, long lower) {
        is(call, got, 1);
        is(call + " by upper()", x.upper(), upper);
        is(call + " by lower()", x.lower(), lower);
    }

    /** The call was refused by a finding. */
    static void finds(String call, RindDates x, long got, int finding) {
        is(call, got, RindDates.FINDING);
        is(call + " by finding()", x.finding(), finding);
    }

    /** The call answers that it is refused (or NONE) and changes nothing; it costs some 24 of an object's 512 calls. */
    static void leaves(String call, RindDates x, IntSupplier run, int answer) {
        refused(call, x, run, answer, 0);
    }

    /** As leaves(), but refused by a finding, which alone is told then. */
    static void leavesBy(String call, RindDates x, IntSupplier run, int finding) {
        refused(call, x, run, RindDates.FINDING, finding);
    }

    private static void refused(String call, RindDates x, IntSupplier run, int answer, int finding) {
        long digest = x.digest();
        int asked = x.asked();
        long upper = x.upper();
        long lower = x.lower();
        int latest = x.finding();
        int[] often = new int[6];
        for (int f = 1; f <= 5; f++) {
            often[f] = x.findings(f);
        }
        is(call, run.getAsInt(), answer);
        is(call + ": digest() stays", x.digest(), digest);
        is(call + ": asked() stays", x.asked(), asked);
        is(call + ": upper() stays", x.upper(), upper);
        is(call + ": lower() stays", x.lower(), lower);
        is(call + ": finding()", x.finding(), finding == 0 ? latest : finding);
        for (int f = 1; f <= 5; f++) {
            is(call + ": findings(" + f + ")", x.findings(f), often[f] + (f == finding ? 1 : 0));
        }
    }

    static void text(RindDates x, int t, String signs) {
        is("text of " + signs, x.text(t, signs.length()), signs.length());
        for (int i = 0; i < signs.length(); i++) {
            is("put of a blank", x.put(t, i, signs.charAt(i)), 1032);
        }
    }

    static RindDates farm(String signs) {
        RindDates x = new RindDates();
        text(x, 0, signs);
        is("fault of " + signs, x.fault(0), RindDates.NONE);
        is("farm of " + signs, x.farm(0) > 0 ? 1 : 0, 1);
        return x;
    }

    /** A farm of this anger (0 to 72), what is held most by the first figures. */
    static RindDates farm(int anger, int limit, String wheels) {
        StringBuilder signs = new StringBuilder("a");
        for (int k = 0, left = anger; k < 8; k++) {
            int held = Math.min(9, left);
            signs.append(held);
            left -= held;
        }
        return farm(signs.append(limit / 10).append(limit % 10).append(wheels).toString());
    }

    static void days(RindDates x, int n) {
        for (int d = 0; d < n; d++) {
            is("a day passes", x.day() >= 0 ? 1 : 0, 1);
        }
    }

    static void row(RindDates x, int r, int... places) {
        is("row", x.row(r, places.length), places.length);
        for (int i = 0; i < places.length; i++) {
            is("lay", x.lay(r, i, places[i]), 1);
        }
    }

    static void rowIs(String call, RindDates x, int r, int... places) {
        for (int i = 0; i < places.length; i++) {
            tells(call + ": place " + i, x, x.at(r, i), places[i]);
        }
        is(call + ": no further place", x.at(r, places.length), RindDates.FINDING);
    }

    static void close(String name) {
        System.out.println(name + ": " + calls + " answers, " + wrong + " not as due");
        if (wrong != 0 || calls == 0) {
            System.exit(1);
        }
    }
}
