/** Promises 10 to 15: each sentence that names a boundary case, by a test of its own. */
public final class FarmEdgesTest {
    private static final int BAD = RindDates.BAD, STATE = RindDates.STATE, NONE = RindDates.NONE;
    private static final int NOTHING = 1, UNLIKE = 3;
    private static final int LEAST = Integer.MIN_VALUE, GREATEST = Integer.MAX_VALUE;
    private static final String KINDS = " w14 o25 y36 s47 r58 l99";

    public static void main(String[] args) {
        faults();
        farms();
        wheels();
        marks();
        held();
        Due.close("FarmEdgesTest");
    }

    private static void faults() {
        Due.sentence("10 fault: a FAULT of a TEXT", FarmEdgesTest::faultPlaces);
        Due.sentence("10 fault: NONE: there is none", FarmEdgesTest::faultNone);
        Due.sentence("10 fault: BAD", FarmEdgesTest::faultBad);
        Due.sentence("10 fault: NOTHING", FarmEdgesTest::faultNothing);
    }

    private static void faultPlaces() {
        RindDates x = new RindDates();
        x.text(3, 60);
        Due.is("the greatest, the size", x.fault(3), 60);
        x.put(3, 59, 'a');
        Due.is("the last place can begin", x.fault(3), 60);
        x.put(3, 59, 'b');
        Due.is("the last place", x.fault(3), 59);
        x.put(3, 0, 'b');
        Due.is("the least", x.fault(3), 0);
        x.text(3, 0);
        Due.is("without bytes", x.fault(3), 0);
    }

    private static void faultNone() {
        RindDates x = new RindDates();
        String longest = " ".repeat(25) + "a9999999960" + "   w99   l90";
        Due.text(x, 0, longest + " ".repeat(60 - longest.length()));
        Due.is("of 60 bytes", x.fault(0), NONE);
        Due.text(x, 1, "a0000000001w10");
        Due.is("of 14 bytes", x.fault(1), NONE);
        Due.leaves("it makes no farm", x, () -> x.fault(1), NONE);
        Due.is("no wheels", x.count(0), 0);
    }

    private static void faultBad() {
        RindDates x = new RindDates();
        int[] bad = {-1, 4, LEAST, GREATEST};
        for (int t : bad) {
            Due.leaves("fault(" + t + ")", x, () -> x.fault(t), BAD);
        }
    }

    private static void faultNothing() {
        RindDates x = new RindDates();
        x.text(1, 5);
        Due.leavesBy("fault(0)", x, () -> x.fault(0), NOTHING);
        Due.leavesBy("fault(3)", x, () -> x.fault(3), NOTHING);
    }

    private static void farms() {
        Due.sentence("11 farm: how many WHEELS", FarmEdgesTest::farmSizes);
        Due.sentence("11 farm: anew: DAY 0, nothing made, sold, no DEEDS", FarmEdgesTest::farmAnew);
        Due.sentence("11 farm: anew: kept FARMS go", FarmEdgesTest::keptGo);
        Due.sentence("11 farm: BAD", FarmEdgesTest::farmBad);
        Due.sentence("11 farm: NOTHING", FarmEdgesTest::farmNothing);
        Due.sentence("11 farm: STATE: a FAULT", FarmEdgesTest::farmFault);
        Due.sentence("11 farm: STATE behind NOTHING", FarmEdgesTest::farmOrder);
    }

    private static void farmSizes() {
        RindDates x = new RindDates();
        int[] sizes = {1, 6, 2, 5, 3, 4};
        for (int n : sizes) {
            Due.text(x, 0, "a1234567860" + KINDS.substring(0, 4 * n));
            Due.is("farm of " + n, x.farm(0), n);
            Due.is("count(0)", x.count(0), n);
            Due.tells("its last", x, x.wheel(n - 1, 0), n - 1);
            Due.is("no further one", x.wheel(n, 0), BAD);
        }
    }

    private static void farmAnew() {
        RindDates x = Due.farm("a1234567860" + KINDS);
        long first = x.digest();
        for (int i = 0; i < 6; i++) {
            x.make(i);
            x.say(i % 4);
        }
        x.sell(5);
        x.sell(0);
        Due.days(x, 3);
        Due.is("farm(0)", x.farm(0), 6);
        Due.is("as at first", x.digest(), first);
        Due.is("nothing to undo", x.undo(0), 0);
        Due.is("nor a deed", x.undo(1), BAD);
        Due.is("what was sold can be made", x.make(5) >= 0 ? 1 : 0, 1);
        Due.is("there is room for 40", x.count(2), 1);
        Due.days(x, 39);
        Due.is("farm(0), full", x.farm(0), 6);
        Due.is("a day of it", x.day(), 24);
    }

    private static void keptGo() {
        RindDates x = Due.farm("a1234567860" + KINDS);
        for (int k = 0; k <= 2; k++) {
            x.keep(k);
        }
        Due.is("three are kept", x.count(10), 3);
        x.farm(0);
        Due.is("none is kept", x.count(10), 0);
        for (int k = 0; k <= 2; k++) {
            Due.finds("on(" + k + ")", x, x.on(k), NOTHING);
        }
    }

    private static void farmBad() {
        RindDates x = Due.farm("a1234567860 w10");
        int[] bad = {-1, 4, LEAST, GREATEST};
        for (int t : bad) {
            Due.leaves("farm(" + t + ")", x, () -> x.farm(t), BAD);
        }
    }

    private static void farmNothing() {
        RindDates x = Due.farm("a1234567860 w10");
        x.keep(0);
        Due.leavesBy("farm(1)", x, () -> x.farm(1), NOTHING);
        Due.leavesBy("farm(3)", x, () -> x.farm(3), NOTHING);
    }

    private static void farmFault() {
        RindDates x = Due.farm("a1234567836 w14 o25");
        x.make(0);
        x.keep(0);
        String[] faulty = {"", "  ", "a9", "a9999999901", "a9999999900l99", "a9999999901l99y", "b"};
        for (String signs : faulty) {
            Due.text(x, 1, signs);
            Due.leaves("farm of '" + signs + "'", x, () -> x.farm(1), STATE);
        }
        Due.is("day() by the farm as it was", x.day(), 24);
        Due.tells("its limit", x, x.wheel(1, 6), 13);
        Due.is("undo(0)", x.undo(0), 2);
        Due.is("its first anger", x.count(3), 36);
        Due.is("what is kept", x.on(0), 1);
    }

    private static void farmOrder() {
        RindDates x = new RindDates();
        Due.leavesBy("a text that is missing has no fault", x, () -> x.farm(0), NOTHING);
        x.text(0, 0);
        Due.leaves("one without bytes has", x, () -> x.farm(0), STATE);
    }

    private static void wheels() {
        Due.sentence("12 wheel: 0 the KIND, 1 how long it KEEPS, 2 SALT", FarmEdgesTest::wheelAsTold);
        Due.sentence("12 wheel: 3 the DAY on which it was made (NONE)", FarmEdgesTest::wheelDay);
        Due.sentence("12 wheel: 4 its RIND (NONE: not made)", FarmEdgesTest::wheelRind);
        Due.sentence("12 wheel: 5 whether it is on the SHELF (1, 0)", FarmEdgesTest::wheelShelf);
        Due.sentence("12 wheel: 6 the RIND that it would have, made now", FarmEdgesTest::wheelNow);
        Due.sentence("12 wheel: BAD", FarmEdgesTest::wheelBad);
    }

    private static void wheelAsTold() {
        RindDates x = Due.farm("a1234567860 l10 w99");
        Due.tells("the greatest kind", x, x.wheel(0, 0), 5);
        Due.tells("keeps least", x, x.wheel(0, 1), 1);
        Due.tells("salted least", x, x.wheel(0, 2), 0);
        Due.tells("the least kind", x, x.wheel(1, 0), 0);
        Due.tells("keeps longest", x, x.wheel(1, 1), 9);
        Due.tells("salted most", x, x.wheel(1, 2), 9);
    }

    private static void wheelDay() {
        RindDates x = Due.farm("a1234567860 w11 w11 w11");
        Due.tells("not made", x, x.wheel(0, 3), NONE);
        x.make(0);
        Due.tells("on day 0", x, x.wheel(0, 3), 0);
        Due.days(x, 38);
        x.make(1);
        Due.tells("on day 38", x, x.wheel(1, 3), 38);
        Due.tells("gone, on day 0", x, x.wheel(0, 3), 0);
        Due.tells("not made still", x, x.wheel(2, 3), NONE);
    }

    private static void wheelRind() {
        RindDates x = Due.farm("a9000000001 w14 r10");
        Due.tells("not made", x, x.wheel(0, 4), NONE);
        Due.is("make(0)", x.make(0), 12);
        Due.tells("made", x, x.wheel(0, 4), 12);
        x.day();
        Due.tells("gone", x, x.wheel(0, 4), 12);
        Due.days(x, 8);
        Due.is("make(1)", x.make(1), 0);
        Due.tells("made, of 0", x, x.wheel(1, 4), 0);
        x.sell(1);
        Due.tells("sold", x, x.wheel(1, 4), 0);
        x.undo(0);
        Due.tells("undone", x, x.wheel(0, 4), NONE);
    }

    private static void wheelShelf() {
        RindDates x = Due.farm("a1234567860 w10 w20");
        Due.tells("not made", x, x.wheel(0, 5), 0);
        x.make(0);
        x.make(1);
        Due.tells("made", x, x.wheel(0, 5), 1);
        x.day();
        Due.tells("gone", x, x.wheel(0, 5), 0);
        Due.tells("of 2 days, 1 has passed", x, x.wheel(1, 5), 1);
        x.sell(1);
        Due.tells("sold", x, x.wheel(1, 5), 0);
        x.undo(3);
        Due.tells("not sold", x, x.wheel(1, 5), 1);
    }

    private static void wheelNow() {
        RindDates x = Due.farm("a0000000006 w24 r24");
        Due.tells("by no anger", x, x.wheel(0, 6), 4);
        Due.tells("runny by no anger", x, x.wheel(1, 6), 0);
        x.make(0);
        x.say(3);
        Due.tells("at the limit, though it is made", x, x.wheel(0, 6), 10);
        Due.tells("runny at the limit", x, x.wheel(1, 6), 5);
        Due.tells("its own stays", x, x.wheel(0, 4), 4);
        x.day();
        Due.tells("below the limit", x, x.wheel(0, 6), 4);
        x.sell(0);
        Due.tells("sold", x, x.wheel(0, 6), 4);
    }

    private static void wheelBad() {
        RindDates x = Due.farm("a1234567860 w10 w10");
        int[] bad = {-1, 2, 6, NONE, LEAST, GREATEST};
        for (int i : bad) {
            Due.leaves("wheel(" + i + ", 0)", x, () -> x.wheel(i, 0), BAD);
        }
        int[] what = {-1, 7, LEAST, GREATEST};
        for (int w : what) {
            Due.leaves("wheel(0, " + w + ")", x, () -> x.wheel(0, w), BAD);
        }
        RindDates six = Due.farm("a1234567860" + KINDS);
        Due.leaves("of six, wheel(6, 0)", six, () -> six.wheel(6, 0), BAD);
        RindDates none = new RindDates();
        Due.leaves("of none, wheel(0, 0)", none, () -> none.wheel(0, 0), BAD);
    }

    private static void marks() {
        Due.sentence("13 mark: an OLD one (SHOW, LONG, too) how much thicker it would be than a WHEEL, and 100 (below that, "
            + "if it was thinner)", FarmEdgesTest::markOld);
        Due.sentence("13 mark: a YOUNG one (RUNNY, too) how much thinner", FarmEdgesTest::markYoung);
        Due.sentence("13 mark: a SHOW (LONG, too) how much thinner than an OLD one, and 100 (likewise)", FarmEdgesTest::markShow);
        Due.sentence("13 mark: a RUNNY one whether it would run (RIND 0; 1, 0)", FarmEdgesTest::markRunny);
        Due.sentence("13 mark: a LONG one how many MATTERS both HOLD something of", FarmEdgesTest::markLong);
        Due.sentence("13 mark: a WHEEL that IS of a KIND", FarmEdgesTest::markOfNow);
        Due.sentence("13 mark: BAD: also KIND 0", FarmEdgesTest::markBad);
        Due.sentence("13 mark: UNLIKE", FarmEdgesTest::markUnlike);
    }

    private static void markOld() {
        RindDates thin = Due.farm("a0000000060 o10 s10 l10");
        Due.is("old", thin.mark(0, 1), 102);
        Due.is("a show below its bound", thin.mark(1, 1), 102);
        Due.is("a long one below its bound", thin.mark(2, 1), 107);
        RindDates even = Due.farm(40, 1, " s10 l10 s12 l15");
        Due.is("a show as thick as a wheel", even.mark(0, 1), 100);
        Due.is("a long one", even.mark(1, 1), 105);
        Due.is("a show thinner than a wheel", even.mark(2, 1), 96);
        Due.is("a long one thinner by its bound", even.mark(3, 1), 95);
        RindDates most = Due.farm(72, 1, " o19 s19 l19");
        Due.is("old still 2 more", most.mark(0, 1), 102);
        Due.is("a show of the thickest", most.mark(1, 1), 100 + 20 - 54);
        Due.is("a long one of the thickest", most.mark(2, 1), 100 + 25 - 54);
    }

    private static void markYoung() {
        RindDates x = Due.farm("a0000000060 y10 r10 y15 r15");
        Due.is("of no rind", x.mark(0, 2), 0);
        Due.is("runny of no rind", x.mark(1, 2), 0);
        Due.is("young, cut", x.mark(2, 2), 5 - 2);
        Due.is("runny, speaking", x.mark(3, 2), 5);
        RindDates y = Due.farm(72, 1, " y19 r19");
        Due.is("young of the thickest", y.mark(0, 2), 27);
        Due.is("runny of the thickest", y.mark(1, 2), 27);
    }

    private static void markShow() {
        RindDates x = Due.farm(36, 60, " s19 l19 s10 l10");
        Due.is("a show at its bound", x.mark(0, 3), 100);
        Due.is("a long one at its bound", x.mark(1, 3), 95);
        Due.is("a show below it", x.mark(2, 3), 100);
        Due.is("a long one below it", x.mark(3, 3), 95);
        RindDates y = Due.farm(40, 60, " s19 l19");
        Due.is("a show beyond its bound", y.mark(0, 3), 101);
        Due.is("a long one beyond it", y.mark(1, 3), 96);
        RindDates most = Due.farm(72, 1, " s19 l19");
        Due.is("a show of the thickest", most.mark(0, 3), 100 + 56 - 20);
        Due.is("a long one of the thickest", most.mark(1, 3), 100 + 56 - 25);
    }

    private static void markRunny() {
        RindDates x = Due.farm("a1000000002 r19");
        Due.is("speaking, though salted", x.mark(0, 4), 1);
        RindDates y = Due.farm("a2000000002 r19 r11 r10");
        Due.is("silent", y.mark(0, 4), 0);
        Due.is("silent, of rind 1", y.mark(1, 4), 0);
        Due.is("silent, of rind 0", y.mark(2, 4), 1);
    }

    private static void markLong() {
        Due.is("none", Due.farm("a0000000060 l10").mark(0, 5), 0);
        Due.is("the elder alone", Due.farm("a1111000060 l10").mark(0, 5), 0);
        Due.is("the younger alone", Due.farm("a0000111160 l10").mark(0, 5), 0);
        Due.is("each another one", Due.farm("a9009099060 l10").mark(0, 5), 0);
        Due.is("the first", Due.farm("a1000100060 l10").mark(0, 5), 1);
        Due.is("the last", Due.farm("a0001000160 l10").mark(0, 5), 1);
        RindDates x = Due.farm("a1234123460 l10");
        Due.is("all", x.mark(0, 5), 4);
        x.day();
        Due.is("one is at 0", x.mark(0, 5), 2);
        x.say(0);
        Due.is("one by a saying", x.mark(0, 5), 3);
    }

    private static void markOfNow() {
        RindDates x = Due.farm("a9900000018 o90 r90 l90");
        Due.is("runny, silent", x.mark(1, 4), 0);
        x.make(1);
        x.day();
        Due.is("runny now, though it was made silent", x.mark(1, 4), 1);
        Due.is("old now", x.mark(0, 1), 102);
        x.say(3);
        Due.is("silent again", x.mark(1, 4), 0);
        Due.is("long now", x.mark(2, 5), 1);
    }

    private static void markBad() {
        RindDates x = Due.farm("a1234567860 l10 w10");
        int[] kinds = {0, -1, 6, NONE, LEAST, GREATEST};
        for (int kind : kinds) {
            Due.leaves("mark(0, " + kind + ")", x, () -> x.mark(0, kind), BAD);
        }
        int[] bad = {-1, 2, LEAST, GREATEST};
        for (int i : bad) {
            Due.leaves("mark(" + i + ", 1)", x, () -> x.mark(i, 1), BAD);
        }
        Due.leaves("of a wheel, KIND 0", x, () -> x.mark(1, 0), BAD);
        RindDates none = new RindDates();
        Due.leaves("without wheels", none, () -> none.mark(0, 1), BAD);
    }

    private static void markUnlike() {
        RindDates x = Due.farm("a1234567860" + KINDS);
        int[][] unlike = {{0, 1}, {0, 2}, {0, 3}, {0, 4}, {0, 5}, {1, 2}, {1, 3}, {1, 4}, {1, 5}, {2, 1}, {2, 3}, {2, 4}, {2, 5}, {3, 2},
            {3, 4}, {3, 5}, {4, 1}, {4, 3}, {4, 5}};
        for (int[] u : unlike) {
            Due.leavesBy("mark(" + u[0] + ", " + u[1] + ")", x, () -> x.mark(u[0], u[1]), UNLIKE);
        }
        RindDates y = Due.farm("a1234567860" + KINDS);
        Due.leavesBy("mark(5, 2)", y, () -> y.mark(5, 2), UNLIKE);
        Due.leavesBy("mark(5, 4)", y, () -> y.mark(5, 4), UNLIKE);
    }

    private static void held() {
        Due.sentence("14 holds: a brother (0 the elder, 1 the younger)", FarmEdgesTest::holdsOfEach);
        Due.sentence("14 holds: BAD", FarmEdgesTest::holdsBad);
        Due.sentence("14 holds: nothing at first", FarmEdgesTest::holdsAtFirst);
        Due.sentence("15 anger: behind n (0 .. 20) DAYS in which nothing is said", FarmEdgesTest::angerDays);
        Due.sentence("15 anger: whether they are SILENT then (1, 0) by asked()", FarmEdgesTest::angerSilent);
        Due.sentence("15 anger: BAD", FarmEdgesTest::angerBad);
        Due.sentence("15 anger: STATE: no WHEELS", FarmEdgesTest::angerState);
    }

    private static void holdsOfEach() {
        RindDates x = Due.farm("a0129987060 w10");
        int[] elder = {0, 1, 2, 9};
        int[] younger = {9, 8, 7, 0};
        for (int m = 0; m < 4; m++) {
            Due.is("holds(0, " + m + ")", x.holds(0, m), elder[m]);
            Due.is("holds(1, " + m + ")", x.holds(1, m), younger[m]);
        }
        x.say(0);
        Due.is("the most", x.holds(1, 0), 12);
    }

    private static void holdsBad() {
        RindDates x = Due.farm("a1234567860 w10");
        int[][] bad = {{-1, 0}, {2, 0}, {0, -1}, {0, 4}, {1, -1}, {1, 4}, {-1, 4}, {2, -4}, {LEAST, 0}, {GREATEST, 0}, {0, LEAST},
            {0, GREATEST}, {NONE, NONE}};
        for (int[] b : bad) {
            Due.leaves("holds(" + b[0] + ", " + b[1] + ")", x, () -> x.holds(b[0], b[1]), BAD);
        }
    }

    private static void holdsAtFirst() {
        RindDates x = new RindDates();
        for (int m = 0; m < 4; m++) {
            Due.is("holds(0, " + m + ")", x.holds(0, m), 0);
            Due.is("holds(1, " + m + ")", x.holds(1, m), 0);
        }
        Due.is("holds(2, 0)", x.holds(2, 0), BAD);
    }

    private static void angerDays() {
        RindDates x = Due.farm("a0000000060 w10");
        for (int k = 0; k < 4; k++) {
            x.say(0);
        }
        // 12 and 12: 3 less by a day while the younger has some, then 1 less.
        for (int n = 0; n <= 20; n++) {
            Due.is("anger(" + n + ")", x.anger(n), Math.max(0, 12 - n) + Math.max(0, 12 - 2 * n));
        }
        Due.is("now still", x.anger(0), 24);
        Due.is("no day passed", x.count(1), 0);
    }

    private static void angerSilent() {
        RindDates x = Due.farm("a9000000004 w10");
        for (int n = 0; n <= 20; n++) {
            Due.is("anger(" + n + ")", x.anger(n), Math.max(0, 9 - n));
            Due.is("silent by it", x.asked(), n <= 5 ? 1 : 0);
        }
    }

    private static void angerBad() {
        RindDates x = Due.farm("a1234567860 w10");
        RindDates none = new RindDates();
        int[] bad = {-1, 21, NONE, LEAST, GREATEST};
        for (int n : bad) {
            Due.leaves("anger(" + n + ")", x, () -> x.anger(n), BAD);
            Due.leaves("BAD ahead of STATE: anger(" + n + ")", none, () -> none.anger(n), BAD);
        }
    }

    private static void angerState() {
        RindDates none = new RindDates();
        Due.leaves("anger(0)", none, () -> none.anger(0), STATE);
        Due.leaves("anger(20)", none, () -> none.anger(20), STATE);
    }
}
