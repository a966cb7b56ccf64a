/** Promises 23 to 27: each sentence that names a boundary case, by a test of its own. */
public final class PlansEdgesTest {
    private static final int BAD = RindDates.BAD, STATE = RindDates.STATE, NONE = RindDates.NONE;
    private static final int NOTHING = 1, BEYOND = 2, UNLIKE = 3, NOUGHT = 4, SIZE = 5;
    private static final int LEAST = Integer.MIN_VALUE, GREATEST = Integer.MAX_VALUE;
    private static final int[] NO_ROWS = {-1, 6, LEAST, GREATEST};

    public static void main(String[] args) {
        peace();
        plans();
        throughs();
        abouts();
        sures();
        Due.close("PlansEdgesTest");
    }

    private static void peace() {
        Due.sentence("23 peace: in how many DAYS (0: now)", PlansEdgesTest::peaceNow);
        Due.sentence("23 peace: they speak first (not SILENT)", PlansEdgesTest::peaceFirst);
        Due.sentence("23 peace: the longest", PlansEdgesTest::peaceLongest);
        Due.sentence("23 peace: ANGER then by asked()", PlansEdgesTest::peaceAnger);
        Due.sentence("23 peace: STATE: no WHEELS", PlansEdgesTest::peaceState);
    }

    private static void peaceIs(String signs, int days, int anger) {
        RindDates x = Due.farm(signs);
        Due.is("peace() by " + signs, x.peace(), days);
        Due.is("anger then", x.asked(), anger);
        Due.is("no day passed", x.count(2), 0);
    }

    private static void peaceNow() {
        peaceIs("a0000000001 w10", 0, 0);
        peaceIs("a9000000010 w10", 0, 9);
        peaceIs("a9999999659 w10", 1, 57);
        peaceIs("a9999995060 w10", 0, 59);
    }

    private static void peaceFirst() {
        peaceIs("a9000000009 w10", 1, 8);
        peaceIs("a9000000008 w10", 2, 7);
        peaceIs("a0000900009 w10", 1, 7);
        peaceIs("a0000900007 w10", 2, 5);
    }

    private static void peaceLongest() {
        peaceIs("a9000000001 w10", 9, 0);
        RindDates x = Due.farm("a0000000001 w10");
        for (int k = 0; k < 16; k++) {
            x.say(k / 4);
        }
        Due.is("of the most", x.peace(), 12);
        Due.is("anger then", x.asked(), 0);
        RindDates late = Due.farm("a0000000002 w10");
        for (int k = 0; k < 4; k++) {
            late.say(3);
        }
        Due.is("to the last but one", late.peace(), 11);
        Due.is("anger then", late.asked(), 1);
    }

    private static void peaceAnger() {
        peaceIs("a1234567824 w10", 2, 13);
        RindDates x = Due.farm("a1234567824 w10");
        Due.days(x, 2);
        Due.is("now", x.peace(), 0);
        Due.is("anger now", x.asked(), 13);
    }

    private static void peaceState() {
        RindDates none = new RindDates();
        Due.leaves("peace()", none, none::peace, STATE);
    }

    private static void plans() {
        Due.sentence("24 plan: of n (0 .. 5) DAYS", PlansEdgesTest::planDays);
        Due.sentence("24 plan: v (0 .. 60) or more", PlansEdgesTest::planRinds);
        Due.sentence("24 plan: the fewest SAYINGS", PlansEdgesTest::planFewest);
        Due.sentence("24 plan: the RIND of a WHEEL, made then", PlansEdgesTest::planMadeThen);
        Due.sentence("24 plan: the first such PLAN comes to a ROW (anew)", PlansEdgesTest::planRow);
        Due.sentence("24 plan: NONE: by none", PlansEdgesTest::planNone);
        Due.sentence("24 plan: BAD", PlansEdgesTest::planBad);
    }

    /** From nothing: a matter said on n days leaves 3 by each of these, another one less. */
    private static void planDays() {
        RindDates x = Due.farm("a0000000060 w10");
        Due.is("0 days", x.plan(0, 0, 0, 0), 0);
        Due.finds("a row without places", x, x.at(0, 0), BEYOND);
        Due.is("1 day", x.plan(0, 1, 0, 0), 0);
        Due.rowIs("1 day", x, 0, NONE);
        Due.is("5 days", x.plan(0, 5, 3, 0), 4);
        Due.rowIs("5 days", x, 0, NONE, 0, 0, 0, 0);
        Due.is("5 days, all of these", Due.farm("a0000000060 w11").plan(0, 5, 4, 0), 4);
        RindDates most = Due.farm("a0000000015 w10");
        Due.is("silent by the fifth alone", most.plan(0, 5, 6, 0), 5);
        Due.rowIs("each day", most, 0, 0, 0, 0, 0, 0);
    }

    private static void planRinds() {
        RindDates x = Due.farm("a0000000060 w14");
        Due.is("0", x.plan(0, 0, 0, 0), 0);
        Due.is("as thick as it is", x.plan(0, 0, 4, 0), 0);
        Due.is("thicker by 1", x.plan(0, 0, 5, 0), NONE);
        Due.is("60", x.plan(0, 0, 60, 0), NONE);
        RindDates most = Due.farm("a9999999960 w19 w16 w15");
        for (int m = 0; m < 4; m++) {
            most.say(m);
        }
        Due.is("66 is 60 or more", most.plan(0, 0, 60, 0), 0);
        Due.is("60 is it", most.plan(1, 0, 60, 0), 0);
        Due.is("58 is less", most.plan(2, 0, 60, 0), NONE);
        Due.is("58 is 58", most.plan(2, 0, 58, 0), 0);
    }

    private static void planFewest() {
        RindDates x = Due.farm("a0000000060 w10");
        Due.is("none is wanted", x.plan(0, 3, 0, 0), 0);
        Due.is("one leaves 3 at most", x.plan(0, 3, 1, 0), 2);
        Due.is("three leave 9 at most", x.plan(0, 3, 2, 0), 3);
        RindDates y = Due.farm("a0000000003 w11");
        Due.is("one is enough to be silent", y.plan(0, 3, 2, 0), 1);
        Due.rowIs("on the last day", y, 0, NONE, NONE, 0);
        RindDates silent = Due.farm("a9000000008 w11");
        Due.is("none, as they are silent still", silent.plan(0, 1, 6, 0), 0);
        Due.is("one, as they would speak", silent.plan(0, 2, 6, 0), 1);
    }

    private static void planMadeThen() {
        RindDates x = Due.farm("a9999000004 w10 r19 l10");
        Due.is("now it is 18", x.plan(0, 0, 18, 0), 0);
        Due.is("behind a day by a saying", x.plan(0, 1, 18, 0), 1);
        Due.is("behind a day never thicker", x.plan(0, 1, 19, 0), NONE);
        Due.is("without a saying", x.plan(0, 1, 16, 0), 0);
        Due.is("a runny one", x.plan(1, 0, 18, 0), 0);
        Due.is("a long one", x.plan(2, 0, 25, 0), 0);
        Due.is("a long one is 25 at most", x.plan(2, 0, 26, 0), NONE);
        x.make(0);
        Due.is("though it is made", x.plan(0, 0, 18, 0), 0);
        Due.is("aside: no deed", x.count(2), 1);
        Due.is("aside: no day", x.count(1), 0);
        Due.is("aside: anger", x.count(3), 36);
    }

    private static void planRow() {
        RindDates x = Due.farm("a0000000003 w11");
        x.row(5, 40);
        Due.is("to one that is full", x.plan(0, 2, 2, 5), 1);
        Due.rowIs("it is anew", x, 5, NONE, 0);
        Due.is("to one that is missing", x.plan(0, 2, 2, 0), 1);
        Due.rowIs("it is there", x, 0, NONE, 0);
        Due.is("two rows", x.count(8), 2);
        Due.is("to one without places", x.row(1, 0), 0);
        Due.is("plan", x.plan(0, 1, 2, 1), 1);
        Due.rowIs("it has one", x, 1, 0);
        Due.is("through it", x.through(1), 3);
        Due.is("plan tells nothing by asked()", x.plan(0, 1, 2, 1) == 1 ? x.asked() : -1, 0);
        for (int k = 0; k < 4; k++) {
            x.say(0);
        }
        x.undo(0);
        Due.is("the hedge is first", x.plan(0, 1, 2, 1), 1);
        Due.rowIs("0", x, 1, 0);
    }

    private static void planNone() {
        RindDates x = Due.farm("a0000000060 w10");
        Due.row(x, 0, 5, 6);
        Due.leaves("behind 0 days", x, () -> x.plan(0, 0, 1, 0), NONE);
        Due.leaves("behind 5 days", x, () -> x.plan(0, 5, 4, 0), NONE);
        Due.leaves("to a missing row", x, () -> x.plan(0, 5, 60, 5), NONE);
        Due.rowIs("the row", x, 0, 5, 6);
    }

    private static void planBad() {
        RindDates x = Due.farm("a9999999901 w19 w19");
        int[] wheels = {-1, 2, 6, LEAST, GREATEST};
        for (int i : wheels) {
            Due.leaves("wheel " + i, x, () -> x.plan(i, 0, 0, 0), BAD);
        }
        int[] days = {-1, 6, NONE, LEAST, GREATEST};
        for (int n : days) {
            Due.leaves(n + " days", x, () -> x.plan(0, n, 0, 0), BAD);
        }
        int[] rinds = {-1, 61, LEAST, GREATEST};
        for (int v : rinds) {
            Due.leaves("a rind of " + v, x, () -> x.plan(0, 0, v, 0), BAD);
        }
        RindDates y = Due.farm("a9999999901 w19");
        for (int r : NO_ROWS) {
            Due.leaves("row " + r, y, () -> y.plan(0, 0, 0, r), BAD);
        }
        Due.leaves("row 6, though there is none such", y, () -> y.plan(0, 0, 60, 6), BAD);
        RindDates none = new RindDates();
        Due.leaves("without wheels", none, () -> none.plan(0, 0, 0, 0), BAD);
    }

    private static void throughs() {
        Due.sentence("25 through: ANGER behind a PLAN of a ROW (0 to 20 DAYS)", PlansEdgesTest::throughDays);
        Due.sentence("25 through: on how many mornings they are SILENT (ahead of each SAYING) by asked()",
            PlansEdgesTest::throughMornings);
        Due.sentence("25 through: BAD", PlansEdgesTest::throughBad);
        Due.sentence("25 through: STATE: no WHEELS", PlansEdgesTest::throughState);
        Due.sentence("25 through: NOTHING", PlansEdgesTest::throughNothing);
        Due.sentence("25 through: SIZE: more than 20", PlansEdgesTest::throughSize);
        Due.sentence("25 through: UNLIKE: no MATTER, nor NONE", PlansEdgesTest::throughUnlike);
        Due.sentence("25 through: (in this order)", PlansEdgesTest::throughOrder);
    }

    private static void throughDays() {
        RindDates x = Due.farm("a1234567860 w10");
        x.row(0, 0);
        Due.is("0 days", x.through(0), 36);
        Due.row(x, 0, NONE);
        Due.is("a day of nothing", x.through(0), 24);
        Due.row(x, 0, 3);
        Due.is("a day of the last matter", x.through(0), 30);
        x.row(0, 20);
        Due.is("20 days of the first", x.through(0), 11 + 10);
        for (int d = 0; d < 20; d++) {
            x.lay(0, d, NONE);
        }
        Due.is("20 days of nothing", x.through(0), 0);
        x.lay(0, 19, 2);
        Due.is("a saying on the last", x.through(0), 3);
        Due.is("aside: anger", x.count(3), 36);
        Due.is("aside: no deed", x.count(2), 0);
    }

    private static void mornings(String signs, int due, int... plan) {
        RindDates x = Due.farm(signs);
        Due.row(x, 0, plan);
        Due.is("through(0) by " + signs, x.through(0) >= 0 ? 1 : 0, 1);
        Due.is("silent mornings of " + plan.length, x.asked(), due);
    }

    private static void throughMornings() {
        mornings("a9000000001 w10", 0);
        mornings("a0000000003 w10", 0, 0);
        mornings("a0000000003 w10", 1, 0, NONE);
        mornings("a0000000003 w10", 1, 0, NONE, NONE);
        mornings("a3000000003 w10", 1, NONE, NONE);
        mornings("a3000000004 w10", 0, NONE, NONE);
        mornings("a9000000009 w10", 1, 0);
        mornings("a9000000001 w10", 9, NONE, NONE, NONE, NONE, NONE, NONE, NONE, NONE, NONE, NONE, NONE);
        mornings("a1000000001 w10", 20, 0, 0, 0, 0, 0, 0, 0, 0, 0, 0, 0, 0, 0, 0, 0, 0, 0, 0, 0, 0);
    }

    private static void throughBad() {
        RindDates x = Due.farm("a1234567860 w10");
        for (int r : NO_ROWS) {
            Due.leaves("through(" + r + ")", x, () -> x.through(r), BAD);
        }
    }

    private static void throughState() {
        RindDates none = new RindDates();
        none.row(0, 0);
        Due.leaves("through(0)", none, () -> none.through(0), STATE);
    }

    private static void throughNothing() {
        RindDates x = Due.farm("a1234567860 w10");
        Due.leavesBy("missing at first", x, () -> x.through(0), NOTHING);
        x.row(0, 0);
        x.tear(0);
        Due.leavesBy("torn", x, () -> x.through(0), NOTHING);
    }

    private static void throughSize() {
        RindDates x = Due.farm("a1234567860 w10");
        int[] sizes = {21, 22, 40};
        for (int n : sizes) {
            x.row(0, n);
            Due.leavesBy(n + " days", x, () -> x.through(0), SIZE);
        }
        x.row(0, 20);
        Due.is("20 days", x.through(0), 21);
    }

    private static void throughUnlike() {
        int[] none = {-1, 4, 5, NONE + 1, NONE - 1, LEAST, GREATEST};
        for (int v : none) {
            RindDates x = Due.farm("a1234567860 w10");
            Due.row(x, 0, v, 0, NONE);
            Due.leavesBy(v + " first", x, () -> x.through(0), UNLIKE);
            Due.row(x, 0, 3, NONE, v);
            Due.leavesBy(v + " last", x, () -> x.through(0), UNLIKE);
            x.row(0, 20);
            x.lay(0, 19, v);
            Due.leavesBy(v + " on the 20th", x, () -> x.through(0), UNLIKE);
        }
    }

    private static void throughOrder() {
        RindDates none = new RindDates();
        Due.leaves("BAD ahead of STATE", none, () -> none.through(6), BAD);
        Due.leaves("STATE ahead of NOTHING", none, () -> none.through(0), STATE);
        none.row(0, 21);
        none.lay(0, 0, 4);
        Due.leaves("STATE ahead of SIZE", none, () -> none.through(0), STATE);
        RindDates x = Due.farm("a1234567860 w10");
        x.row(0, 21);
        x.lay(0, 0, 4);
        Due.leavesBy("SIZE ahead of UNLIKE", x, () -> x.through(0), SIZE);
    }

    private static void abouts() {
        Due.sentence("4: a ROW of 1 to 4 ANGERS 0 .. 100, as they were behind each of as many DAYS from now", PlansEdgesTest::angers);
        Due.sentence("26 about: how many PLANS there are, told by upper() (lower() is 1)", PlansEdgesTest::aboutMany);
        Due.sentence("26 about: the SAYING of the first DAY of the first of these by asked() (NONE: none)", PlansEdgesTest::aboutFirst);
        Due.sentence("26 about: NONE: also if there is no PLAN", PlansEdgesTest::aboutNoPlan);
        Due.sentence("26 about: BAD", PlansEdgesTest::aboutBad);
        Due.sentence("26 about: STATE", PlansEdgesTest::aboutState);
        Due.sentence("26 about: NOTHING", PlansEdgesTest::aboutNothing);
        Due.sentence("26 about: SIZE: none, more than 4", PlansEdgesTest::aboutSize);
        Due.sentence("26 about: UNLIKE", PlansEdgesTest::aboutUnlike);
        Due.sentence("26 about: (in this order)", PlansEdgesTest::aboutOrder);
    }

    private static RindDates by(String signs, int... angers) {
        RindDates x = Due.farm(signs);
        Due.row(x, 0, angers);
        return x;
    }

    private static void angers() {
        RindDates one = by("a0000000060 w10", 0);
        Due.tells("an anger of 0", one, one.about(0), NONE);
        Due.is("one plan", one.upper(), 1);
        RindDates four = by("a0000000060 w10", 3, 6, 9, 12);
        Due.tells("four, each 3 more", four, four.about(0), 0);
        Due.is("any matter, four times", four.upper(), 4);
        RindDates last = by("a0000000060 w10", 3, 6, 9, 11);
        Due.tells("the last is not so", last, last.about(0), NONE);
        Due.is("no plan", last.upper(), 0);
        RindDates from = by("a1234567860 w10", 24);
        from.day();
        Due.parts("from now, not from the first day", from, from.about(0), 0, 1);
        Due.row(from, 0, 13);
        Due.parts("from now", from, from.about(0), 1, 1);
        RindDates hundred = by("a9999999960 w10", 100);
        Due.parts("100 is an anger", hundred, hundred.about(0), 0, 1);
    }

    private static void aboutMany() {
        RindDates x = by("a0000000060 w10", 3);
        Due.parts("one of four matters", x, x.about(0), 4, 1);
        Due.row(x, 0, 3, 4);
        Due.parts("two of these", x, x.about(0), 12, 1);
        Due.row(x, 0, 3, 4, 4, 4);
        Due.tells("and two more", x, x.about(0), 0);
        Due.is("each another one than the day before, and the day ahead of it", x.upper(), 4 * 3 * 2 * 2);
        Due.is("of one", x.lower(), 1);
        Due.is("aside: no deed", x.count(2), 0);
        Due.is("aside: anger", x.count(3), 0);
    }

    private static void aboutFirst() {
        RindDates x = by("a0000000060 w10", 0, 3);
        Due.tells("none on the first day", x, x.about(0), NONE);
        Due.is("though one is said then", x.upper(), 4);
        RindDates y = by("a9990000060 w10", 24);
        Due.tells("none on the only day", y, y.about(0), NONE);
        Due.is("one plan", y.upper(), 1);
        Due.row(y, 0, 27);
        Due.tells("the last matter", y, y.about(0), 3);
        Due.is("it alone", y.upper(), 1);
        Due.row(y, 0, 28);
        Due.tells("the first of three", y, y.about(0), 0);
        Due.is("three", y.upper(), 3);
    }

    private static void aboutNoPlan() {
        RindDates x = by("a0000000060 w10", 3);
        Due.tells("a plan", x, x.about(0), 0);
        Due.row(x, 0, 1);
        Due.tells("no plan", x, x.about(0), NONE);
        Due.is("0 plans", x.upper(), 0);
        Due.is("by 1", x.lower(), 1);
        Due.is("it is no refusal", x.finding(), 0);
    }

    private static void aboutBad() {
        RindDates x = Due.farm("a1234567860 w10");
        for (int r : NO_ROWS) {
            Due.leaves("about(" + r + ")", x, () -> x.about(r), BAD);
        }
    }

    private static void aboutState() {
        RindDates none = new RindDates();
        none.row(0, 1);
        Due.leaves("about(0)", none, () -> none.about(0), STATE);
    }

    private static void aboutNothing() {
        RindDates x = Due.farm("a1234567860 w10");
        Due.leavesBy("about(0)", x, () -> x.about(0), NOTHING);
        x.row(0, 1);
        x.tear(0);
        Due.leavesBy("torn", x, () -> x.about(0), NOTHING);
    }

    private static void aboutSize() {
        RindDates x = Due.farm("a0000000060 w10");
        int[] sizes = {0, 5, 6, 40};
        for (int n : sizes) {
            x.row(0, n);
            Due.leavesBy("of " + n, x, () -> x.about(0), SIZE);
        }
        x.row(0, 1);
        Due.tells("of 1", x, x.about(0), NONE);
        x.row(0, 4);
        Due.tells("of 4", x, x.about(0), NONE);
    }

    private static void aboutUnlike() {
        RindDates x = Due.farm("a0000000060 w10");
        int[] none = {-1, 101, NONE, LEAST, GREATEST};
        for (int v : none) {
            Due.row(x, 0, v);
            Due.leavesBy(v + " alone", x, () -> x.about(0), UNLIKE);
            Due.row(x, 0, 100, 0, 0, v);
            Due.leavesBy(v + " last", x, () -> x.about(0), UNLIKE);
        }
    }

    private static void aboutOrder() {
        RindDates none = new RindDates();
        Due.leaves("BAD ahead of STATE", none, () -> none.about(-1), BAD);
        Due.leaves("STATE ahead of NOTHING", none, () -> none.about(0), STATE);
        none.row(0, 0);
        Due.leaves("STATE ahead of SIZE", none, () -> none.about(0), STATE);
        RindDates x = Due.farm("a0000000060 w10");
        Due.row(x, 0, -1, -1, -1, -1, -1);
        Due.leavesBy("SIZE ahead of UNLIKE", x, () -> x.about(0), SIZE);
    }

    private static void sures() {
        Due.sentence("27 sure: MATTERS (bits) that were said in all of these PLANS", PlansEdgesTest::sureAll);
        Due.sentence("27 sure: that were in none by asked()", PlansEdgesTest::sureNone);
        Due.sentence("27 sure: BAD", PlansEdgesTest::sureBad);
        Due.sentence("27 sure: STATE", PlansEdgesTest::sureState);
        Due.sentence("27 sure: NOTHING", PlansEdgesTest::sureNothing);
        Due.sentence("27 sure: SIZE", PlansEdgesTest::sureSize);
        Due.sentence("27 sure: UNLIKE", PlansEdgesTest::sureUnlike);
        Due.sentence("27 sure: NOUGHT: there is none", PlansEdgesTest::sureNought);
        Due.sentence("27 sure: (in this order)", PlansEdgesTest::sureOrder);
    }

    private static void sureIs(RindDates x, int all, int none) {
        long upper = x.upper();
        Due.is("in all", x.sure(0), all);
        Due.is("in none", x.asked(), none);
        Due.is("it tells nothing by upper()", x.upper(), upper);
    }

    private static void sureAll() {
        sureIs(by("a9990000060 w10", 27), 0b1000, 0b0111);
        sureIs(by("a0999000060 w10", 27), 0b0001, 0b1110);
        sureIs(by("a9990000060 w10", 28), 0b0000, 0b1000);
        sureIs(by("a9990000060 w10", 27, 27), 0b1000, 0b0111);
        sureIs(by("a9000000060 w10", 12, 13), 0b0001, 0b0000);
        sureIs(by("a0000000060 w10", 3, 4, 4, 4), 0b0000, 0b0000);
    }

    private static void sureNone() {
        sureIs(by("a0000000060 w10", 0), 0b0000, 0b1111);
        sureIs(by("a0000000060 w10", 0, 0, 0, 0), 0b0000, 0b1111);
        sureIs(by("a0000000060 w10", 0, 0, 0, 3), 0b0000, 0b0000);
        sureIs(by("a9900000060 w10", 19), 0b0000, 0b0011);
    }

    private static void sureBad() {
        RindDates x = Due.farm("a1234567860 w10");
        for (int r : NO_ROWS) {
            Due.leaves("sure(" + r + ")", x, () -> x.sure(r), BAD);
        }
    }

    private static void sureState() {
        RindDates none = new RindDates();
        none.row(0, 1);
        Due.leaves("sure(0)", none, () -> none.sure(0), STATE);
    }

    private static void sureNothing() {
        RindDates x = Due.farm("a1234567860 w10");
        Due.leavesBy("sure(5)", x, () -> x.sure(5), NOTHING);
        x.row(5, 1);
        x.tear(5);
        Due.leavesBy("torn", x, () -> x.sure(5), NOTHING);
    }

    private static void sureSize() {
        RindDates x = Due.farm("a0000000060 w10");
        int[] sizes = {0, 5, 6, 40};
        for (int n : sizes) {
            x.row(0, n);
            Due.leavesBy("of " + n, x, () -> x.sure(0), SIZE);
        }
    }

    private static void sureUnlike() {
        RindDates x = Due.farm("a0000000060 w10");
        int[] none = {-1, 101, NONE, LEAST, GREATEST};
        for (int v : none) {
            Due.row(x, 0, v);
            Due.leavesBy(v + " alone", x, () -> x.sure(0), UNLIKE);
            Due.row(x, 0, 0, 0, 0, v);
            Due.leavesBy(v + " last", x, () -> x.sure(0), UNLIKE);
        }
    }

    private static void sureNought() {
        RindDates x = by("a0000000060 w10", 100);
        x.at(0, 0);
        Due.leavesBy("by 100", x, () -> x.sure(0), NOUGHT);
        Due.row(x, 0, 0, 1);
        Due.leavesBy("by the last of two", x, () -> x.sure(0), NOUGHT);
        Due.row(x, 0, 0, 3);
        Due.is("by one that there is", x.sure(0), 0);
    }

    private static void sureOrder() {
        RindDates none = new RindDates();
        Due.leaves("BAD ahead of STATE", none, () -> none.sure(-1), BAD);
        Due.leaves("STATE ahead of NOTHING", none, () -> none.sure(0), STATE);
        RindDates x = Due.farm("a0000000060 w10");
        Due.row(x, 0, -1, -1, -1, -1, -1);
        Due.leavesBy("SIZE ahead of UNLIKE", x, () -> x.sure(0), SIZE);
        Due.row(x, 0, 99, 101);
        Due.leavesBy("UNLIKE ahead of NOUGHT", x, () -> x.sure(0), UNLIKE);
    }
}
