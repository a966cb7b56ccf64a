import java.util.function.IntUnaryOperator;

/** The terms of the document (ANSWERS, 1, 2): each sentence that names a boundary case, by a test of its own. */
public final class TermsEdgesTest {
    private static final int BAD = RindDates.BAD, FULL = RindDates.FULL, STATE = RindDates.STATE, NONE = RindDates.NONE;
    private static final int NOTHING = 1, BEYOND = 2, UNLIKE = 3, NOUGHT = 4, SIZE = 5;
    private static final int ALL_TOLD = 1;
    private static final String KINDS = "w10o10y10s10r10l10";

    public static void main(String[] args) {
        answers();
        texts();
        faults();
        rinds();
        deeds();
        Due.close("TermsEdgesTest");
    }

    private static void answers() {
        Due.sentence("ANSWERS: BAD -1, FULL -2, STATE -4, SPENT -6, FINDING -3, NONE -9", TermsEdgesTest::constants);
        Due.sentence("ANSWERS: BAD is the first that fits", TermsEdgesTest::badIsFirst);
        Due.sentence("ANSWERS: STATE fits ahead of FINDING", TermsEdgesTest::stateAheadOfFinding);
        Due.sentence("ANSWERS: NONE: a ROW that something was to come to stays as it is then", TermsEdgesTest::noneLeavesRow);
        Due.sentence("ANSWERS: what is refused changes nothing but finding(), findings(): rows, texts", TermsEdgesTest::refusedRows);
        Due.sentence("ANSWERS: what is refused changes nothing but finding(), findings(): farms, deeds", TermsEdgesTest::refusedDeeds);
        Due.sentence("ANSWERS: what is refused changes nothing but finding(), findings(): plans, shows", TermsEdgesTest::refusedPlans);
        Due.sentence("ANSWERS: what is refused changes nothing but finding(), findings(): what is told", TermsEdgesTest::refusedTold);
        Due.sentence("ANSWERS: FINDINGS: 1 NOTHING (a ROW, a TEXT, a kept FARM that is missing)", TermsEdgesTest::findingNothing);
        Due.sentence("ANSWERS: FINDINGS: 2 BEYOND (a place that there is not)", TermsEdgesTest::findingBeyond);
        Due.sentence("ANSWERS: FINDINGS: 3 UNLIKE (a WHEEL of another KIND; a number that is none)", TermsEdgesTest::findingUnlike);
        Due.sentence("ANSWERS: FINDINGS: 4 NOUGHT (shared among none; nothing fits)", TermsEdgesTest::findingNought);
        Due.sentence("ANSWERS: FINDINGS: 5 SIZE (fewer than none; not as many as due)", TermsEdgesTest::findingSize);
        Due.sentence("ANSWERS: in lowest terms", TermsEdgesTest::lowestTerms);
        Due.sentence("ANSWERS: the lower number above 0 (0 by 1)", TermsEdgesTest::noughtByOne);
        Due.sentence("ANSWERS: sets of WHEELS, KINDS, MATTERS, numbers 0 .. 9 by bits: least, greatest, all, none", TermsEdgesTest::sets);
    }

    private static void constants() {
        Due.is("BAD", RindDates.BAD, -1);
        Due.is("FULL", RindDates.FULL, -2);
        Due.is("FINDING", RindDates.FINDING, -3);
        Due.is("STATE", RindDates.STATE, -4);
        Due.is("SPENT", RindDates.SPENT, -6);
        Due.is("NONE", RindDates.NONE, -9);
    }

    private static void badIsFirst() {
        RindDates x = new RindDates();
        Due.is("row(6, -1)", x.row(6, -1), BAD);
        Due.is("text(4, -1)", x.text(4, -1), BAD);
        Due.is("copy(6, -1, 0, -1, -1)", x.copy(6, -1, 0, -1, -1), BAD);
        Due.is("anger(21) without wheels", x.anger(21), BAD);
        Due.is("say(4) without wheels", x.say(4), BAD);
        Due.is("keep(3) without wheels", x.keep(3), BAD);
        Due.is("through(6) without wheels", x.through(6), BAD);
        Due.is("about(6) without wheels", x.about(6), BAD);
        Due.is("sure(6) without wheels", x.sure(6), BAD);
        Due.is("shows(0, 6) without wheels", x.shows(0, 6), BAD);
        Due.is("duel(6) without wheels", x.duel(6), BAD);
        Due.is("odds(7, 0, 0) without wheels", x.odds(7, 0, 0), BAD);
        Due.is("mid(0, 0, 13) without wheels", x.mid(0, 0, 13), BAD);
        Due.is("lots(0, 1) without wheels", x.lots(0, 1), BAD);
        Due.is("no finding by these", x.finding(), 0);
        RindDates full = Due.farm("a0000000060 w10");
        Due.days(full, 40);
        Due.is("say(4), full", full.say(4), BAD);
        Due.is("make(1), full", full.make(1), BAD);
        Due.is("sell(1), full", full.sell(1), BAD);
        Due.is("lots(21, 1), full", full.lots(21, 1), BAD);
    }

    private static void stateAheadOfFinding() {
        RindDates x = new RindDates();
        Due.is("through(0)", x.through(0), STATE);
        Due.is("about(0)", x.about(0), STATE);
        Due.is("sure(0)", x.sure(0), STATE);
        Due.is("shows(0, 0)", x.shows(0, 0), STATE);
        Due.row(x, 1, 101, 101, 101, 101, 101);
        Due.is("about(1)", x.about(1), STATE);
        Due.is("sure(1)", x.sure(1), STATE);
        Due.is("shows(1, 0)", x.shows(1, 0), STATE);
        Due.is("no finding by these", x.finding(), 0);
    }

    private static void noneLeavesRow() {
        RindDates x = Due.farm("a0000000060 w10");
        Due.row(x, 2, 7, -8, 9);
        Due.leaves("plan by none, a row that is there", x, () -> x.plan(0, 2, 60, 2), NONE);
        Due.rowIs("the row", x, 2, 7, -8, 9);
        Due.leaves("plan by none, a row that is missing", x, () -> x.plan(0, 2, 60, 3), NONE);
        Due.finds("it is missing still", x, x.at(3, 0), NOTHING);
    }

    /** An object that has told something by all means, with two rows, two texts, a farm, one kept, and findings. */
    private static RindDates busy() {
        RindDates x = Due.farm("a3140520217 w34 o52");
        Due.text(x, 2, "a1");
        Due.row(x, 1, 4, -5, 6);
        x.row(2, 0);
        x.say(1);
        x.make(0);
        x.keep(1);
        x.day();
        Due.is("mid", x.mid(1, 0, 5), ALL_TOLD);
        Due.tells("at", x, x.at(1, 1), -5);
        Due.finds("tear", x, x.tear(5), NOTHING);
        return x;
    }

    private static void refusedRows() {
        RindDates x = busy();
        Due.leaves("row(1, 41)", x, () -> x.row(1, 41), BAD);
        Due.leavesBy("row(1, -1)", x, () -> x.row(1, -1), SIZE);
        Due.leaves("lay(6, 0, 1)", x, () -> x.lay(6, 0, 1), BAD);
        Due.leavesBy("lay(1, 3, 1)", x, () -> x.lay(1, 3, 1), BEYOND);
        Due.leavesBy("lay(0, 0, 1)", x, () -> x.lay(0, 0, 1), NOTHING);
        Due.leavesBy("at(1, 3)", x, () -> x.at(1, 3), BEYOND);
        Due.leavesBy("at(0, 0)", x, () -> x.at(0, 0), NOTHING);
        Due.leavesBy("tear(0)", x, () -> x.tear(0), NOTHING);
        RindDates y = busy();
        Due.leavesBy("copy(1, 0, 1, 1, 3)", y, () -> y.copy(1, 0, 1, 1, 3), BEYOND);
        Due.leavesBy("copy(1, 0, 1, 1, -1)", y, () -> y.copy(1, 0, 1, 1, -1), SIZE);
        Due.leavesBy("copy(1, 0, 0, 0, 1)", y, () -> y.copy(1, 0, 0, 0, 1), NOTHING);
        Due.leavesBy("mean(2)", y, () -> y.mean(2), NOUGHT);
        Due.leaves("text(0, 61)", y, () -> y.text(0, 61), BAD);
        Due.leavesBy("text(0, -1)", y, () -> y.text(0, -1), SIZE);
        Due.leavesBy("put(0, 19, 7)", y, () -> y.put(0, 19, 7), BEYOND);
        Due.leavesBy("put(1, 0, 7)", y, () -> y.put(1, 0, 7), NOTHING);
        Due.leavesBy("fault(1)", y, () -> y.fault(1), NOTHING);
    }

    private static void refusedDeeds() {
        RindDates x = busy();
        Due.leavesBy("farm(1)", x, () -> x.farm(1), NOTHING);
        Due.leaves("farm(2)", x, () -> x.farm(2), STATE);
        Due.leaves("wheel(0, 7)", x, () -> x.wheel(0, 7), BAD);
        Due.leavesBy("mark(0, 1)", x, () -> x.mark(0, 1), UNLIKE);
        Due.leaves("anger(21)", x, () -> x.anger(21), BAD);
        Due.leaves("say(4)", x, () -> x.say(4), BAD);
        Due.leaves("make(0)", x, () -> x.make(0), STATE);
        Due.leaves("sell(1)", x, () -> x.sell(1), STATE);
        Due.leaves("undo(4)", x, () -> x.undo(4), BAD);
        Due.leaves("keep(3)", x, () -> x.keep(3), BAD);
        Due.leavesBy("on(0)", x, () -> x.on(0), NOTHING);
        RindDates y = busy();
        Due.days(y, 37);
        Due.leaves("day(), full", y, y::day, FULL);
        Due.leaves("say(0), full", y, () -> y.say(0), FULL);
        Due.leaves("make(1), full", y, () -> y.make(1), FULL);
        Due.leaves("lots(1, 1), full", y, () -> y.lots(1, 1), FULL);
        y.undo(39);
        Due.leaves("lots(2, 1), all but full", y, () -> y.lots(2, 1), FULL);
    }

    private static void refusedPlans() {
        RindDates x = busy();
        Due.leaves("plan(0, 6, 0, 1)", x, () -> x.plan(0, 6, 0, 1), BAD);
        Due.leavesBy("through(1)", x, () -> x.through(1), UNLIKE);
        Due.leavesBy("through(0)", x, () -> x.through(0), NOTHING);
        Due.leavesBy("about(2)", x, () -> x.about(2), SIZE);
        Due.leavesBy("about(1)", x, () -> x.about(1), UNLIKE);
        Due.leavesBy("sure(2)", x, () -> x.sure(2), SIZE);
        Due.leavesBy("sure(1)", x, () -> x.sure(1), UNLIKE);
        x.lay(1, 1, 100);
        Due.leavesBy("sure(1), by no plan", x, () -> x.sure(1), NOUGHT);
        RindDates y = busy();
        Due.leavesBy("salts(0, 1)", y, () -> y.salts(0, 1), SIZE);
        Due.leavesBy("kinds(0, 1)", y, () -> y.kinds(0, 1), SIZE);
        Due.leavesBy("test(0, 1)", y, () -> y.test(0, 1), SIZE);
        Due.leavesBy("shows(1, 2)", y, () -> y.shows(1, 2), UNLIKE);
        Due.leavesBy("shows(0, 1)", y, () -> y.shows(0, 1), NOTHING);
        y.row(1, 5);
        Due.leavesBy("shows(1, 1)", y, () -> y.shows(1, 1), SIZE);
        Due.row(y, 1, 0, 99);
        Due.leaves("test(0, 1), of no kind", y, () -> y.test(0, 1), NONE);
    }

    private static void refusedTold() {
        RindDates x = busy();
        Due.leaves("duel(6)", x, () -> x.duel(6), BAD);
        Due.leaves("odds(7, 0, 0)", x, () -> x.odds(7, 0, 0), BAD);
        Due.leaves("mid(0, 4, 0)", x, () -> x.mid(0, 4, 0), BAD);
        Due.leaves("lots(1, 0)", x, () -> x.lots(1, 0), BAD);
        Due.leaves("count(11)", x, () -> x.count(11), BAD);
        Due.leaves("findings(6)", x, () -> x.findings(6), BAD);
        Due.leaves("holds(2, 0)", x, () -> x.holds(2, 0), BAD);
        RindDates none = new RindDates();
        Due.leaves("peace() without wheels", none, none::peace, STATE);
        Due.leaves("anger(0) without wheels", none, () -> none.anger(0), STATE);
        Due.leaves("duel(0) without wheels", none, () -> none.duel(0), STATE);
        Due.leaves("odds(0, 0, 0) without wheels", none, () -> none.odds(0, 0, 0), STATE);
        Due.leaves("mid(0, 0, 0) without wheels", none, () -> none.mid(0, 0, 0), STATE);
        Due.leaves("keep(0) without wheels", none, () -> none.keep(0), STATE);
        Due.leaves("about(0) without wheels", none, () -> none.about(0), STATE);
    }

    private static void findingNothing() {
        RindDates x = new RindDates();
        Due.leavesBy("a row", x, () -> x.at(0, 0), NOTHING);
        Due.leavesBy("a text", x, () -> x.fault(0), NOTHING);
        Due.leavesBy("a kept farm", x, () -> x.on(0), NOTHING);
    }

    private static void findingBeyond() {
        RindDates x = new RindDates();
        x.row(0, 3);
        x.text(0, 3);
        Due.leavesBy("of a row", x, () -> x.at(0, 3), BEYOND);
        Due.leavesBy("of a row, below 0", x, () -> x.at(0, -1), BEYOND);
        Due.leavesBy("of a text", x, () -> x.put(0, 3, 1), BEYOND);
        Due.leavesBy("of a text, below 0", x, () -> x.put(0, -1, 1), BEYOND);
    }

    private static void findingUnlike() {
        RindDates x = Due.farm("a0000000060 w10");
        Due.row(x, 0, 4);
        Due.row(x, 1, 101, 0);
        Due.row(x, 2, 100);
        Due.leavesBy("a wheel of another kind", x, () -> x.mark(0, 1), UNLIKE);
        Due.leavesBy("a saying that is none", x, () -> x.through(0), UNLIKE);
        Due.leavesBy("an anger that is none", x, () -> x.about(1), UNLIKE);
        Due.leavesBy("a pair that is none", x, () -> x.salts(0, 1), UNLIKE);
        Due.leavesBy("a show that is none", x, () -> x.shows(2, 2), UNLIKE);
    }

    private static void findingNought() {
        RindDates x = Due.farm("a0000000060 w10");
        x.row(0, 0);
        Due.row(x, 1, 100);
        Due.leavesBy("shared among none", x, () -> x.mean(0), NOUGHT);
        Due.leavesBy("nothing fits", x, () -> x.sure(1), NOUGHT);
    }

    private static void findingSize() {
        RindDates x = Due.farm("a0000000060 w10");
        x.row(0, 5);
        Due.leavesBy("a row of fewer than none", x, () -> x.row(0, -1), SIZE);
        Due.leavesBy("a text of fewer than none", x, () -> x.text(0, -1), SIZE);
        Due.leavesBy("a copy of fewer than none", x, () -> x.copy(0, 0, 0, 0, -1), SIZE);
        Due.leavesBy("more angers than due", x, () -> x.about(0), SIZE);
        Due.leavesBy("half a pair", x, () -> x.kinds(0, 0), SIZE);
        Due.leavesBy("more shows than due", x, () -> x.shows(0, 0), SIZE);
    }

    private static void lowestTerms() {
        RindDates x = Due.farm("a0000000003 w10");
        Due.parts("12 of 12", x, x.odds(1, 0, 12), 1, 1);
        Due.parts("1 of 12", x, x.odds(1, 0, 1), 1, 12);
        Due.parts("4 of 12", x, x.odds(1, 0, 4), 1, 3);
        Due.parts("a mean that is whole", x, x.mid(1, 0, 4), 1, 1);
        Due.parts("a mean that is not", x, x.mid(1, 0, 5), 5, 4);
        Due.row(x, 0, 3);
        Due.parts("ways", x, x.about(0), 4, 1);
    }

    private static void noughtByOne() {
        RindDates x = Due.farm("a0000000003 w10");
        x.mid(1, 0, 5);
        Due.parts("no chance", x, x.odds(6, 0, 0), 0, 1);
        x.mid(1, 0, 5);
        Due.parts("a mean of 0", x, x.mid(6, 0, 0), 0, 1);
        x.mid(1, 0, 5);
        Due.row(x, 0, 100);
        Due.parts("no plan", x, x.about(0), 0, 1);
    }

    private static void sets() {
        RindDates x = Due.farm("a0000000060" + KINDS);
        x.row(0, 0);
        Due.is("no wheel", x.count(5), 0);
        x.make(5);
        Due.is("the last wheel", x.count(5), 1 << 5);
        x.make(0);
        Due.is("the first one, too", x.count(5), 1 << 5 | 1);
        Due.is("all kinds", x.kinds(0, 0), (1 << 6) - 1);
        Due.is("all salts", x.salts(0, 0), (1 << 10) - 1);
        Due.row(x, 0, 0, 9);
        Due.is("the greatest salt", x.salts(0, 0), 1 << 9);
        Due.row(x, 0, 0, 0);
        Due.is("the least salt", x.salts(0, 0), 1);
        Due.row(x, 0, 0, 7);
        Due.is("the last kind", x.kinds(0, 0), 1 << 5);
        Due.row(x, 0, 0);
        Due.is("no matter in all", x.sure(0), 0);
        Due.is("all matters in none", x.asked(), (1 << 4) - 1);
    }

    private static void texts() {
        Due.sentence("1: ROWS 0 .. 5", TermsEdgesTest::rowNumbers);
        Due.sentence("1: rows of 0 to 40 ints", TermsEdgesTest::rowSizes);
        Due.sentence("1: TEXTS 0 .. 3", TermsEdgesTest::textNumbers);
        Due.sentence("1: rows of 0 to 60 bytes", TermsEdgesTest::textSizes);
        Due.sentence("1: or missing (at first)", TermsEdgesTest::missingAtFirst);
        Due.sentence("1: MATTERS are 0 .. 3", TermsEdgesTest::matters);
        Due.sentence("1: a FARM (without WHEELS at first)", TermsEdgesTest::noWheelsAtFirst);
        Due.sentence("1: blanks (32) ahead, between, behind as many as wanted", TermsEdgesTest::blanksAsWanted);
        Due.sentence("1: blanks (32): none within items", TermsEdgesTest::blanksWithin);
        Due.sentence("1: blanks (32): no other byte", TermsEdgesTest::onlyBlanks);
        Due.sentence("1: the first item is a (97)", TermsEdgesTest::firstLetter);
        Due.sentence("1: eight figures 0 .. 9", TermsEdgesTest::eightFigures);
        Due.sentence("1: the LIMIT (two figures 01 .. 60)", TermsEdgesTest::limits);
        Due.sentence("1: WHEELS (1 to 6; 0, 1, .. as they come)", TermsEdgesTest::wheels);
        Due.sentence("1: a letter", TermsEdgesTest::letters);
        Due.sentence("1: how long one KEEPS (1 .. 9 days)", TermsEdgesTest::keepsFigures);
        Due.sentence("1: the SALT (0 .. 9)", TermsEdgesTest::saltFigures);
    }

    private static void rowNumbers() {
        RindDates x = new RindDates();
        for (int r = 0; r <= 5; r++) {
            Due.is("row(" + r + ", 1)", x.row(r, 1), 1);
            Due.tells("lay", x, x.lay(r, 0, 10 + r), 0);
        }
        for (int r = 0; r <= 5; r++) {
            Due.tells("each is its own", x, x.at(r, 0), 10 + r);
        }
        int[] bad = {-1, 6, Integer.MIN_VALUE, Integer.MAX_VALUE};
        for (int r : bad) {
            Due.is("row(" + r + ", 1)", x.row(r, 1), BAD);
            Due.is("at(" + r + ", 0)", x.at(r, 0), BAD);
            Due.is("tear(" + r + ")", x.tear(r), BAD);
        }
    }

    private static void rowSizes() {
        RindDates x = new RindDates();
        Due.is("row(0, 0)", x.row(0, 0), 0);
        Due.is("it is there", x.count(8), 1);
        Due.finds("no place of it", x, x.at(0, 0), BEYOND);
        Due.is("row(0, 40)", x.row(0, 40), 40);
        Due.tells("its last place", x, x.lay(0, 39, 3), 0);
        Due.finds("one beyond it", x, x.lay(0, 40, 3), BEYOND);
        Due.is("row(0, 41)", x.row(0, 41), BAD);
    }

    private static void textNumbers() {
        RindDates x = new RindDates();
        for (int t = 0; t <= 3; t++) {
            Due.is("text(" + t + ", 1)", x.text(t, 1), 1);
            Due.is("put", x.put(t, 0, 10 + t), 1032);
        }
        for (int t = 0; t <= 3; t++) {
            Due.is("each is its own", x.put(t, 0, 0), 1010 + t);
        }
        int[] bad = {-1, 4, Integer.MIN_VALUE, Integer.MAX_VALUE};
        for (int t : bad) {
            Due.is("text(" + t + ", 1)", x.text(t, 1), BAD);
            Due.is("put(" + t + ", 0, 1)", x.put(t, 0, 1), BAD);
            Due.is("fault(" + t + ")", x.fault(t), BAD);
            Due.is("farm(" + t + ")", x.farm(t), BAD);
        }
    }

    private static void textSizes() {
        RindDates x = new RindDates();
        Due.is("text(0, 0)", x.text(0, 0), 0);
        Due.is("it is there", x.count(9), 1);
        Due.finds("no place of it", x, x.put(0, 0, 1), BEYOND);
        Due.is("text(0, 60)", x.text(0, 60), 60);
        Due.is("its last place", x.put(0, 59, 3), 1032);
        Due.finds("one beyond it", x, x.put(0, 60, 3), BEYOND);
        Due.is("text(0, 61)", x.text(0, 61), BAD);
    }

    private static void missingAtFirst() {
        RindDates x = new RindDates();
        for (int r = 0; r <= 5; r++) {
            Due.finds("row " + r, x, x.at(r, 0), NOTHING);
        }
        for (int t = 0; t <= 3; t++) {
            Due.finds("text " + t, x, x.fault(t), NOTHING);
        }
    }

    private static void matters() {
        RindDates x = Due.farm("a1234567860 w10");
        for (int m = 0; m <= 3; m++) {
            Due.is("holds(0, " + m + ")", x.holds(0, m), 1 + m);
            Due.is("say(" + m + ")", x.say(m), 36 + 6 * (m + 1));
        }
        int[] bad = {-1, 4, NONE, Integer.MIN_VALUE, Integer.MAX_VALUE};
        for (int m : bad) {
            Due.is("holds(0, " + m + ")", x.holds(0, m), BAD);
            Due.is("say(" + m + ")", x.say(m), BAD);
            Due.is("odds(1, " + m + ", 1)", x.odds(1, m, 1), BAD);
            Due.is("mid(1, " + m + ", 1)", x.mid(1, m, 1), BAD);
        }
    }

    private static void noWheelsAtFirst() {
        RindDates x = new RindDates();
        Due.is("count(0)", x.count(0), 0);
        Due.is("wheel(0, 0)", x.wheel(0, 0), BAD);
        Due.is("mark(0, 1)", x.mark(0, 1), BAD);
        Due.is("make(0)", x.make(0), BAD);
        Due.is("sell(0)", x.sell(0), BAD);
        Due.is("plan(0, 0, 0, 0)", x.plan(0, 0, 0, 0), BAD);
        Due.is("day()", x.day(), STATE);
        Due.is("peace()", x.peace(), STATE);
    }

    private static int fault(String signs) {
        RindDates x = new RindDates();
        Due.text(x, 3, signs);
        return x.fault(3);
    }

    private static void blanksAsWanted() {
        int[] many = {0, 1, 2, 43};
        for (int n : many) {
            String blanks = " ".repeat(n);
            Due.is(n + " ahead", fault(blanks + "a1234567860w34o52"), NONE);
            Due.is(n + " between the first item and a wheel", fault("a1234567860" + blanks + "w34o52"), NONE);
            Due.is(n + " between wheels", fault("a1234567860w34" + blanks + "o52"), NONE);
            Due.is(n + " behind", fault("a1234567860w34o52" + blanks), NONE);
        }
        RindDates x = Due.farm("  a1234567860  w34   o52  ");
        Due.is("both wheels", x.count(0), 2);
        Due.is("what is held last", x.holds(1, 3), 8);
    }

    private static void blanksWithin() {
        String signs = "a1234567860w34o52";
        for (int i = 1; i < signs.length(); i++) {
            String with = signs.substring(0, i) + " " + signs.substring(i);
            boolean between = i == 11 || i == 14;
            Due.is("fault of '" + with + "'", fault(with), between ? NONE : i);
        }
    }

    private static void onlyBlanks() {
        int[] others = {0, 9, 10, 13, 31, 33, -1, -32, -96, 127};
        int[] places = {0, 12, 16, 20};
        for (int v : others) {
            for (int i : places) {
                RindDates x = new RindDates();
                Due.text(x, 0, " a1234567860 w34 o52 ");
                Due.is("blanks", x.fault(0), NONE);
                x.put(0, i, v);
                Due.is(v + " at " + i, x.fault(0), i);
            }
        }
    }

    private static void firstLetter() {
        RindDates x = new RindDates();
        Due.text(x, 0, " a1234567860w34");
        int[] others = {96, 98, 65, 'w', '1', 0, -97, -31};
        for (int v : others) {
            x.put(0, 1, v);
            Due.is(v + " for it", x.fault(0), 1);
        }
        x.put(0, 1, 97);
        Due.is("97", x.fault(0), NONE);
        Due.is("another one behind it", fault("aa234567860w34"), 1);
    }

    private static void eightFigures() {
        for (int i = 1; i <= 8; i++) {
            RindDates x = new RindDates();
            Due.text(x, 0, "a1234567860w34");
            int[] others = {'0' - 1, '9' + 1, 'a', 32, -48, 0};
            for (int v : others) {
                x.put(0, i, v);
                Due.is(v + " at " + i, x.fault(0), i);
                Due.is("no farm by it", x.farm(0), STATE);
            }
            for (int held = 0; held <= 9; held += 9) {
                x.put(0, i, '0' + held);
                Due.is("farm by " + held, x.farm(0), 1);
                Due.is("it is held", x.holds((i - 1) / 4, (i - 1) % 4), held);
            }
        }
        Due.is("a ninth", fault("a123456789 60w34"), 10);
    }

    private static void limits() {
        RindDates x = new RindDates();
        Due.text(x, 0, "a0000000060w34");
        for (int limit = 0; limit <= 99; limit++) {
            x.put(0, 9, '0' + limit / 10);
            x.put(0, 10, '0' + limit % 10);
            Due.is("a limit of " + limit, x.fault(0), limit >= 1 && limit <= 60 ? NONE : 9);
        }
        Due.is("01: silent from 1 on", Due.farm("a1000000001w34").count(4), 1);
        Due.is("01: not by 0", Due.farm("a0000000001w34").count(4), 0);
        Due.is("60: silent from 60 on", Due.farm(60, 60, "w34").count(4), 1);
        Due.is("60: not by 59", Due.farm(59, 60, "w34").count(4), 0);
    }

    private static void wheels() {
        Due.is("none", fault("a1234567860"), 11);
        Due.is("one", fault("a1234567860w34"), NONE);
        Due.is("six", fault("a1234567860" + KINDS), NONE);
        Due.is("seven", fault("a1234567860" + KINDS + "w10"), 29);
        RindDates x = new RindDates();
        Due.text(x, 0, "a1234567860 w11");
        Due.is("a farm of one", x.farm(0), 1);
        Due.tells("it is 0", x, x.wheel(0, 2), 1);
        Due.is("there is no 1", x.wheel(1, 2), BAD);
        Due.text(x, 0, "a1234567860 w15w14 w13w12  w11w10");
        Due.is("a farm of six", x.farm(0), 6);
        for (int i = 0; i < 6; i++) {
            Due.tells("as they come", x, x.wheel(i, 2), 5 - i);
        }
        Due.is("there is no 6", x.wheel(6, 2), BAD);
    }

    private static void letters() {
        for (int v = -128; v <= 127; v++) {
            RindDates x = new RindDates();
            Due.text(x, 0, "a1234567860w34");
            x.put(0, 11, v);
            int kind = v < 0 ? -1 : "woysrl".indexOf((char) v);
            // Behind a blank the 3 would have to be a letter.
            Due.is("fault by " + v, x.fault(0), kind >= 0 ? NONE : v == 32 ? 12 : 11);
            Due.is("farm by " + v, x.farm(0), kind >= 0 ? 1 : STATE);
            if (kind >= 0) {
                Due.tells("its kind", x, x.wheel(0, 0), kind);
            }
        }
    }

    private static void figuresAt(int place, int what, int least) {
        for (int v = -128; v <= 127; v++) {
            RindDates x = new RindDates();
            Due.text(x, 0, "a1234567860w34");
            x.put(0, place, v);
            boolean well = v >= '0' + least && v <= '9';
            Due.is("fault by " + v, x.fault(0), well ? NONE : place);
            Due.is("farm by " + v, x.farm(0), well ? 1 : STATE);
            if (well) {
                Due.tells("as told", x, x.wheel(0, what), v - '0');
            }
        }
    }

    private static void keepsFigures() {
        figuresAt(12, 1, 1);
    }

    private static void saltFigures() {
        figuresAt(13, 2, 0);
    }

    private static void faults() {
        Due.sentence("1: a FAULT: a letter, a figure that is none such: its place", TermsEdgesTest::faultsAtTheirPlace);
        Due.sentence("1: a FAULT is the first place", TermsEdgesTest::theFirstFault);
        Due.sentence("1: a FAULT: a seventh WHEEL: its place", TermsEdgesTest::seventhWheel);
        Due.sentence("1: a FAULT: two figures that are not as told: the place of the first of both", TermsEdgesTest::twoFigures);
        Due.sentence("1: a FAULT: the TEXT's size, if its end comes too early", TermsEdgesTest::earlyEnds);
        Due.sentence("1: a FAULT: the TEXT's size, if there is no WHEEL", TermsEdgesTest::noWheel);
        Due.sentence("1: a FAULT: the TEXT's size, if there are blanks alone", TermsEdgesTest::blanksAlone);
    }

    private static void faultsAtTheirPlace() {
        String signs = "a1234567860w34o52";
        for (int i = 0; i < signs.length(); i++) {
            String with = signs.substring(0, i) + "x" + signs.substring(i + 1);
            Due.is("fault of '" + with + "'", fault(with), i);
        }
        Due.is("behind the last wheel", fault(signs + "x"), signs.length());
        Due.is("behind the last wheel, and a blank", fault(signs + " 1"), signs.length() + 1);
        Due.is("a second first item", fault(signs + "a1234567860"), signs.length());
    }

    private static void theFirstFault() {
        Due.is("two figures, then a letter", fault("a1234567800x34"), 9);
        Due.is("a figure, then two figures", fault("a12x4567800w34"), 3);
        Due.is("a letter, then an early end", fault("a1234567860x3"), 11);
        Due.is("a wheel's figure, then a seventh wheel", fault("a1234567860w10w10w10w10w10w00w10"), 27);
        Due.is("no first item, and an early end", fault("  x"), 2);
    }

    private static void seventhWheel() {
        String six = "a1234567860w10w10w10w10w10w10";
        Due.is("at once behind the sixth", fault(six + "w10"), 29);
        Due.is("behind blanks", fault(six + "   w10"), 32);
        Due.is("though it has no figures", fault(six + "w"), 29);
        Due.is("no fault without it", fault(six + "   "), NONE);
    }

    private static void twoFigures() {
        Due.is("00", fault("a1234567800w34"), 9);
        Due.is("61", fault("a1234567861w34"), 9);
        Due.is("69", fault("a1234567869w34"), 9);
        Due.is("99", fault("a1234567899w34"), 9);
        Due.is("behind blanks", fault("   a1234567800w34"), 12);
        Due.is("with nothing behind them", fault("a1234567861"), 9);
        Due.is("a first one that is no figure", fault("a12345678x0w34"), 9);
        Due.is("a second one that is no figure", fault("a123456781xw34"), 10);
    }

    private static void earlyEnds() {
        String signs = " a1234567860 w34 o52";
        for (int n = 0; n <= signs.length(); n++) {
            int due = n == 16 || n == 17 || n == 20 ? NONE : n;
            Due.is("the first " + n, fault(signs.substring(0, n)), due);
        }
    }

    private static void noWheel() {
        Due.is("nothing behind the first item", fault("a1234567860"), 11);
        Due.is("a blank behind it", fault("a1234567860 "), 12);
        Due.is("blanks to the greatest size", fault("a1234567860" + " ".repeat(49)), 60);
    }

    private static void blanksAlone() {
        int[] sizes = {0, 1, 2, 59, 60};
        for (int n : sizes) {
            RindDates x = new RindDates();
            x.text(0, n);
            Due.is(n + " blanks", x.fault(0), n);
            Due.is("no farm by " + n + " blanks", x.farm(0), STATE);
        }
    }

    private static void rinds() {
        Due.sentence("1: KINDS: 0 WHEEL, 1 OLD (a WHEEL), 2 YOUNG (a WHEEL), 3 SHOW (an OLD one), 4 RUNNY (a YOUNG one), "
            + "5 LONG (a SHOW)", TermsEdgesTest::kindsOfKinds);
        Due.sentence("1: ANGER is all that both HOLD together", TermsEdgesTest::angerOfBoth);
        Due.sentence("1: they are SILENT, if it is the LIMIT or more", TermsEdgesTest::silentAtLimit);
        Due.sentence("1: of a WHEEL its SALT, and a quarter (cut) of ANGER", TermsEdgesTest::quarterCut);
        Due.sentence("1: twice that (both), if they are SILENT", TermsEdgesTest::twiceBoth);
        Due.sentence("1: of an OLD one 2 more", () -> rindsOf('o', plain -> plain + 2, plain -> plain + 2));
        Due.sentence("1: of a YOUNG one half of it (cut)", () -> rindsOf('y', plain -> plain / 2, plain -> plain / 2));
        Due.sentence("1: of a SHOW as of an OLD one, 20 at most", TermsEdgesTest::showsAtMost);
        Due.sentence("1: of a RUNNY one 0, unless they are SILENT, then as of a YOUNG one",
            () -> rindsOf('r', plain -> 0, plain -> plain / 2));
        Due.sentence("1: of a LONG one 5 more than of a SHOW", TermsEdgesTest::longOnes);
    }

    private static void kindsOfKinds() {
        RindDates x = Due.farm("a0000000060" + KINDS);
        boolean[][] is = new boolean[6][6];
        is[1][1] = is[3][1] = is[5][1] = true;
        is[2][2] = is[4][2] = true;
        is[3][3] = is[5][3] = true;
        is[4][4] = is[5][5] = true;
        for (int i = 0; i < 6; i++) {
            Due.tells("the kind of " + i, x, x.wheel(i, 0), i);
            for (int kind = 1; kind <= 5; kind++) {
                Due.is(i + " is of " + kind, x.mark(i, kind) >= 0 ? 1 : 0, is[i][kind] ? 1 : 0);
            }
        }
    }

    private static void angerOfBoth() {
        Due.is("none", Due.farm("a0000000060 w10").count(3), 0);
        Due.is("of each matter", Due.farm("a1234567860 w10").count(3), 36);
        Due.is("the most of a text", Due.farm("a9999999960 w10").count(3), 72);
        RindDates x = Due.farm("a9999999960 w10");
        for (int m = 0; m < 4; m++) {
            x.say(m);
        }
        Due.is("the most", x.count(3), 96);
    }

    private static void silentAtLimit() {
        int[] limits = {1, 2, 30, 59, 60};
        for (int limit : limits) {
            for (int anger = limit - 1; anger <= limit + 1; anger++) {
                RindDates x = Due.farm(anger, limit, " w10");
                int silent = anger >= limit ? 1 : 0;
                Due.is("anger " + anger + " by " + limit, x.count(4), silent);
                Due.is("anger(0)", x.anger(0), anger);
                Due.is("silent by it", x.asked(), silent);
                Due.tells("rind by it", x, x.wheel(0, 6), (anger / 4) * (1 + silent));
            }
        }
    }

    private static void quarterCut() {
        int[] angers = {0, 1, 3, 4, 7, 8, 57, 59};
        int[] quarters = {0, 0, 0, 1, 1, 2, 14, 14};
        for (int k = 0; k < angers.length; k++) {
            RindDates x = Due.farm(angers[k], 60, " w10 w15 w19");
            Due.tells("salt 0 by " + angers[k], x, x.wheel(0, 6), quarters[k]);
            Due.tells("salt 5 by " + angers[k], x, x.wheel(1, 6), 5 + quarters[k]);
            Due.tells("salt 9 by " + angers[k], x, x.wheel(2, 6), 9 + quarters[k]);
        }
    }

    private static void twiceBoth() {
        int[] angers = {1, 3, 4, 7, 8, 72};
        int[] quarters = {0, 0, 1, 1, 2, 18};
        for (int k = 0; k < angers.length; k++) {
            RindDates x = Due.farm(angers[k], 1, " w10 w15 w19");
            Due.tells("salt 0 by " + angers[k], x, x.wheel(0, 6), 2 * quarters[k]);
            Due.tells("salt 5 by " + angers[k], x, x.wheel(1, 6), 10 + 2 * quarters[k]);
            Due.tells("salt 9 by " + angers[k], x, x.wheel(2, 6), 18 + 2 * quarters[k]);
        }
    }

    /** By what a WHEEL would have: salts 0 to 9, speaking and silent. */
    private static void rindsOf(char letter, IntUnaryOperator speaking, IntUnaryOperator silent) {
        int[] angers = {0, 3, 4, 20, 32, 36, 40, 59};
        for (int anger : angers) {
            for (int salt = 0; salt <= 9; salt++) {
                String wheel = " " + letter + "1" + salt;
                int plain = salt + anger / 4;
                RindDates x = Due.farm(anger, 60, wheel);
                Due.tells(wheel + " by " + anger + ", speaking", x, x.wheel(0, 6), speaking.applyAsInt(plain));
                if (anger > 0) {
                    RindDates y = Due.farm(anger, 1, wheel);
                    Due.tells(wheel + " by " + anger + ", silent", y, y.wheel(0, 6), silent.applyAsInt(2 * plain));
                }
            }
        }
    }

    private static void rindIs(int anger, String wheel, int due) {
        RindDates x = Due.farm(anger, 60, wheel);
        Due.tells(wheel + " by " + anger, x, x.wheel(0, 6), due);
    }

    private static void showsAtMost() {
        rindsOf('s', plain -> Math.min(20, plain + 2), plain -> Math.min(20, plain + 2));
        rindIs(32, " s19", 19);
        rindIs(36, " s19", 20);
        rindIs(40, " s19", 20);
        rindIs(40, " o19", 21);
    }

    private static void longOnes() {
        rindsOf('l', plain -> Math.min(20, plain + 2) + 5, plain -> Math.min(20, plain + 2) + 5);
        rindIs(0, " l10", 7);
        rindIs(36, " l19", 25);
        rindIs(40, " l19", 25);
    }

    private static void deeds() {
        Due.sentence("2: DAY 0 it is at first, no WHEEL is made", TermsEdgesTest::atFirst);
        Due.sentence("2: of each MATTER the elder HOLDS 1 less, the younger 2 less (0 at least)", TermsEdgesTest::lessByDay);
        Due.sentence("2: a SAYING: both HOLD 3 more of it (12 at most)", TermsEdgesTest::moreBySaying);
        Due.sentence("2: a WHEEL is made once", TermsEdgesTest::madeOnce);
        Due.sentence("2: its RIND is as it is then", TermsEdgesTest::rindAsThen);
        Due.sentence("2: it is GONE as these DAYS have passed", TermsEdgesTest::gone);
        Due.sentence("2: made, not GONE, not sold is on the SHELF", TermsEdgesTest::onShelf);
        Due.sentence("2: DEEDS (40 at most)", TermsEdgesTest::mostDeeds);
        Due.sentence("2: a PLAN: a SAYING (MATTER 0 .. 3) or none (NONE)", TermsEdgesTest::planSayings);
        Due.sentence("2: a SAYING ahead of its passing", TermsEdgesTest::sayingAhead);
        Due.sentence("2: PLANS go by none, then by numbers, DAY by DAY, the first ones first", TermsEdgesTest::planOrder);
    }

    private static void atFirst() {
        RindDates x = Due.farm("a1234567860" + KINDS);
        Due.is("the day", x.count(1), 0);
        Due.is("deeds", x.count(2), 0);
        Due.is("the shelf", x.count(5), 0);
        for (int i = 0; i < 6; i++) {
            Due.tells("made on", x, x.wheel(i, 3), NONE);
            Due.tells("its rind", x, x.wheel(i, 4), NONE);
            Due.tells("on the shelf", x, x.wheel(i, 5), 0);
        }
    }

    private static void heldIs(RindDates x, int who, int... due) {
        for (int m = 0; m < 4; m++) {
            Due.is("day " + x.count(1) + ": " + who + " holds of " + m, x.holds(who, m), due[m]);
        }
    }

    private static void lessByDay() {
        RindDates x = Due.farm("a0129012360 w10");
        Due.is("day()", x.day(), 0 + 0 + 1 + 8 + 0 + 0 + 0 + 1);
        heldIs(x, 0, 0, 0, 1, 8);
        heldIs(x, 1, 0, 0, 0, 1);
        Due.is("day()", x.day(), 7);
        heldIs(x, 0, 0, 0, 0, 7);
        heldIs(x, 1, 0, 0, 0, 0);
        Due.days(x, 6);
        heldIs(x, 0, 0, 0, 0, 1);
        Due.is("the last of it", x.day(), 0);
        Due.is("0 at least", x.day(), 0);
        heldIs(x, 0, 0, 0, 0, 0);
        heldIs(x, 1, 0, 0, 0, 0);
    }

    private static void moreBySaying() {
        RindDates x = Due.farm("a8900009860 w10");
        Due.is("to 11, 3", x.say(0), 40);
        Due.is("to 12, 3", x.say(1), 46);
        heldIs(x, 0, 11, 12, 0, 0);
        heldIs(x, 1, 3, 3, 9, 8);
        Due.is("to 12, 6", x.say(0), 50);
        Due.is("12 still, 6", x.say(1), 53);
        Due.is("to 3, 12", x.say(2), 59);
        Due.is("to 3, 11", x.say(3), 65);
        heldIs(x, 0, 12, 12, 3, 3);
        heldIs(x, 1, 6, 6, 12, 11);
        Due.is("to 6, 12 still", x.say(2), 68);
        Due.is("to 6, 12", x.say(3), 72);
        heldIs(x, 0, 12, 12, 6, 6);
        heldIs(x, 1, 6, 6, 12, 12);
        x.say(0);
        x.say(0);
        Due.is("no more than 12 of either", x.say(0), 78);
    }

    private static void madeOnce() {
        RindDates x = Due.farm("a1234567860 w13 w93");
        Due.is("make(0)", x.make(0), 12);
        Due.is("while it is there", x.make(0), STATE);
        x.day();
        Due.is("as it is gone", x.make(0), STATE);
        x.make(1);
        x.sell(1);
        Due.is("as it is sold", x.make(1), STATE);
        Due.is("no deeds by these", x.count(2), 4);
        x.undo(2);
        Due.is("as it is undone", x.make(1), 9);
    }

    private static void rindAsThen() {
        RindDates x = Due.farm("a1234567836 w93 w93");
        Due.is("silent", x.make(0), 24);
        x.day();
        Due.is("speaking", x.make(1), 9);
        x.say(0);
        Due.days(x, 3);
        Due.tells("the first", x, x.wheel(0, 4), 24);
        Due.tells("the second", x, x.wheel(1, 4), 9);
        Due.is("both", x.count(6), 33);
        Due.is("sold later", x.sell(0), 24);
    }

    private static void gone() {
        RindDates x = Due.farm("a0000000060 w10 w20 w90 w20");
        x.make(0);
        x.make(1);
        x.make(2);
        Due.is("day 0", x.count(5), 0b0111);
        x.day();
        Due.is("day 1", x.count(5), 0b0110);
        Due.tells("one of 1 day", x, x.wheel(0, 5), 0);
        Due.is("it is not to be sold", x.sell(0), STATE);
        x.make(3);
        x.say(0);
        x.day();
        Due.is("day 2: sayings are no days", x.count(5), 0b1100);
        x.day();
        Due.is("day 3: the days since it was made", x.count(5), 0b0100);
        Due.days(x, 5);
        Due.is("day 8", x.count(5), 0b0100);
        x.day();
        Due.is("day 9", x.count(5), 0);
        Due.is("its rind is not among these", x.count(6), 0);
    }

    private static void onShelf() {
        RindDates x = Due.farm("a0000000060 w11 w92 w93 w94");
        x.make(0);
        x.make(1);
        x.make(2);
        x.sell(2);
        Due.is("not sold", x.count(5), 0b0011);
        x.day();
        Due.is("not gone, made", x.count(5), 0b0010);
        int[] on = {0, 1, 0, 0};
        for (int i = 0; i < 4; i++) {
            Due.tells("wheel(" + i + ", 5)", x, x.wheel(i, 5), on[i]);
        }
        Due.is("its rind", x.count(6), 2);
    }

    private static void mostDeeds() {
        RindDates x = Due.farm("a0000000060 w10 w90");
        x.make(1);
        for (int k = 1; k < 39; k++) {
            x.say(k % 4);
        }
        Due.is("39 deeds", x.count(2), 39);
        Due.is("the 40th", x.sell(1) >= 0 ? x.count(2) : -1, 40);
        Due.is("a day more", x.day(), FULL);
        Due.is("a saying more", x.say(0), FULL);
        Due.is("a wheel more", x.make(0), FULL);
        Due.is("a lot more", x.lots(1, 1), FULL);
        Due.is("40 still", x.count(2), 40);
        x.undo(39);
        Due.is("one less, a day", x.day() >= 0 ? x.count(2) : -1, 40);
        x.undo(39);
        Due.is("one less, a saying", x.say(0) >= 0 ? x.count(2) : -1, 40);
        Due.is("a sale more", x.sell(1), FULL);
        x.undo(39);
        Due.is("one less, a wheel", x.make(0) >= 0 ? x.count(2) : -1, 40);
        x.undo(39);
        Due.is("one less, a lot", x.lots(1, 2) >= 0 ? x.count(2) : -1, 40);
    }

    private static void planSayings() {
        RindDates x = Due.farm("a0000000060 w10");
        int[] well = {NONE, 0, 1, 2, 3};
        for (int v : well) {
            Due.row(x, 0, v);
            Due.is("a saying of " + v, x.through(0), v == NONE ? 0 : 3);
        }
        int[] ill = {-1, 4, NONE - 1, NONE + 1, Integer.MIN_VALUE, Integer.MAX_VALUE};
        for (int v : ill) {
            Due.row(x, 0, v);
            Due.finds("a saying of " + v, x, x.through(0), UNLIKE);
        }
    }

    /** Behind its passing it would leave 6, and 12 would be passed by 9, less 1. */
    private static void sayingAhead() {
        RindDates x = Due.farm("a0000000060 w10");
        Due.row(x, 0, 2);
        Due.is("of nothing", x.through(0), 3);
        RindDates y = Due.farm("a9000000060 w10");
        Due.row(y, 0, 0);
        Due.is("of the most", y.through(0), 11 + 1);
        Due.is("the fewest for 3", y.plan(0, 1, 3, 0), 1);
    }

    private static void planOrder() {
        RindDates x = Due.farm("a0000000004 w10");
        // Two sayings of one matter leave 6 where they are the last two days', and 4 where they are of two matters.
        Due.is("rind 2 behind 3 days", x.plan(0, 3, 2, 0), 2);
        Due.rowIs("none first", x, 0, NONE, 0, 0);
        RindDates y = Due.farm("a9000000060 w10");
        Due.row(y, 0, 11);
        Due.tells("not the hedge: by numbers", y, y.about(0), 1);
        Due.row(y, 0, 8, 10);
        Due.tells("the first days first", y, y.about(0), NONE);
        // By a limit of 1 a saying on either day is enough, about any matter.
        RindDates z = Due.farm("a0000000001 w91");
        Due.is("silent behind two days", z.plan(0, 2, 2, 0), 1);
        Due.rowIs("the first day by none", z, 0, NONE, 0);
        Due.is("behind one", z.plan(0, 1, 2, 0), 1);
        Due.rowIs("the least number", z, 0, 0);
    }
}
