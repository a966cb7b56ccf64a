/** What every test uses: calls whose answer is not the one that is due are printed, and end it with exit code 1. */
final class Due {
    private static int calls;
    private static int wrong;

    private Due() {
    }

    static void is(String call, long got, long want) {
        calls++;
        if (got != want) {
            wrong++;
            System.out.println(call + " answered " + got + ", due is " + want);
        }
    }

    /** The call answers 1 and tells the wanted by asked(). */
    static void tells(String call, RindDates x, long got, long want) {
        is(call, got, 1);
        is(call + " by asked()", x.asked(), want);
    }

    /** The call was refused by a finding. */
    static void finds(String call, RindDates x, long got, int finding) {
        is(call, got, RindDates.FINDING);
        is(call + " by finding()", x.finding(), finding);
    }

    static void text(RindDates x, int t, String signs) {
        is("text of " + signs, x.text(t, signs.length()), signs.length());
        for (int i = 0; i < signs.length(); i++) {
            is("put of a blank", x.put(t, i, signs.charAt(i)), 1032);
        }
    }

    static RindDates farm(String signs) {
        RindDates x = new RindDates();
        text(x, 0, signs);
        is("fault of " + signs, x.fault(0), RindDates.NONE);
        is("farm of " + signs, x.farm(0) > 0 ? 1 : 0, 1);
        return x;
    }

    static void row(RindDates x, int r, int... places) {
        is("row", x.row(r, places.length), places.length);
        for (int i = 0; i < places.length; i++) {
            is("lay", x.lay(r, i, places[i]), 1);
        }
    }

    static void rowIs(String call, RindDates x, int r, int... places) {
        for (int i = 0; i < places.length; i++) {
            tells(call + ": place " + i, x, x.at(r, i), places[i]);
        }
        is(call + ": no further place", x.at(r, places.length), RindDates.FINDING);
    }

    static void close(String name) {
        System.out.println(name + ": " + calls + " answers, " + wrong + " not as due");
        if (wrong != 0 || calls == 0) {
            System.exit(1);
        }
    }
}
