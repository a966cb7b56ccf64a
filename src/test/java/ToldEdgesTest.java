/** Promises 32 to 42: each sentence that names a boundary case, by a test of its own. */
public final class ToldEdgesTest {
    private static final int BAD = RindDates.BAD, FULL = RindDates.FULL, STATE = RindDates.STATE, NONE = RindDates.NONE;
    private static final int NOTHING = 1, BEYOND = 2, UNLIKE = 3, NOUGHT = 4, SIZE = 5;
    private static final int LEAST = Integer.MIN_VALUE, GREATEST = Integer.MAX_VALUE;
    private static final String SIX = " w14 o25 y36 s47 r58 l99";

    /** odds(), mid(). */
    private interface Chances {
        int of(RindDates x, int n, int matter, int p);
    }

    public static void main(String[] args) {
        duels();
        chances();
        lots();
        asked();
        uppers();
        counts();
        findings();
        digests();
        Due.close("ToldEdgesTest");
    }

    private static void duels() {
        Due.sentence("32 duel: by n (0 .. 5) turns in all", ToldEdgesTest::duelTurns);
        Due.sentence("32 duel: a nephew says something (a SAYING), or nothing", ToldEdgesTest::duelNephew);
        Due.sentence("32 duel: an aunt has a brother (0, 1) forget a MATTER (he HOLDS 0 of it), or none", ToldEdgesTest::duelAunt);
        Due.sentence("32 duel: ANGER at last, the first wanting much, the second little", ToldEdgesTest::duelWants);
        Due.sentence("32 duel: aside", ToldEdgesTest::duelAside);
        Due.sentence("32 duel: BAD", ToldEdgesTest::duelBad);
        Due.sentence("32 duel: STATE: no WHEELS", ToldEdgesTest::duelState);
    }

    private static void duelTurns() {
        RindDates x = Due.farm("a0000000060 w10");
        int[] angers = {0, 6, 3, 9, 6, 12};
        for (int n = 0; n <= 5; n++) {
            Due.is("duel(" + n + ")", x.duel(n), angers[n]);
        }
    }

    private static void duelNephew() {
        Due.is("6 more of any", Due.farm("a1234567860 w10").duel(1), 42);
        RindDates x = Due.farm("a9999999960 w10");
        for (int k = 0; k < 3; k++) {
            x.say(k);
        }
        Due.is("the one that can be more", x.duel(1), x.count(3) + 6);
        x.say(3);
        Due.is("none can be more", x.duel(1), 96);
    }

    private static void duelAunt() {
        Due.is("the elder", Due.farm("a9000000060 w10").duel(2), 6);
        Due.is("the younger", Due.farm("a0000000960 w10").duel(2), 6);
        Due.is("of 29 what is held most", Due.farm("a9111811160 w10").duel(2), 29 - 9);
        RindDates none = Due.farm("a0000000060 w10");
        Due.is("nothing is held", none.duel(0), 0);
    }

    private static void duelWants() {
        // The nephew would not have her take 12: he says what is held less.
        Due.is("much, then little", Due.farm("a9000000060 w10").duel(2), 6);
        Due.is("then much again", Due.farm("a9000000060 w10").duel(3), 12);
        RindDates x = Due.farm("a0000000060 w10");
        for (int k = 0; k < 16; k++) {
            x.say(k / 4);
        }
        int[] angers = {96, 96, 84, 87, 75, 78};
        for (int n = 0; n <= 5; n++) {
            Due.is("of the most, duel(" + n + ")", x.duel(n), angers[n]);
        }
    }

    private static void duelAside() {
        RindDates x = Due.farm("a1234567836 w10");
        x.say(1);
        long before = x.digest();
        Due.is("duel(5)", x.duel(5) >= 0 ? 1 : 0, 1);
        Due.is("nothing changes", x.digest(), before);
        Due.is("asked() stays", x.asked(), 0);
        Due.is("no turn is a deed", x.undo(1), 0);
    }

    private static void duelBad() {
        RindDates x = Due.farm("a1234567836 w10");
        RindDates none = new RindDates();
        int[] bad = {-1, 6, NONE, LEAST, GREATEST};
        for (int n : bad) {
            Due.leaves("duel(" + n + ")", x, () -> x.duel(n), BAD);
            Due.leaves("BAD ahead of STATE: duel(" + n + ")", none, () -> none.duel(n), BAD);
        }
    }

    private static void duelState() {
        RindDates none = new RindDates();
        Due.leaves("duel(0)", none, () -> none.duel(0), STATE);
        Due.leaves("duel(5)", none, () -> none.duel(5), STATE);
    }

    private static void chances() {
        Due.sentence("33 odds: SILENT behind n (0 .. 6) DAYS", ToldEdgesTest::oddsDays);
        Due.sentence("33 odds: a SAYING comes of itself (ahead of its passing) by p (0 .. 12) of 12", ToldEdgesTest::oddsParts);
        Due.sentence("33 odds: each by itself", ToldEdgesTest::oddsEach);
        Due.sentence("33 odds: a SAYING about a MATTER", ToldEdgesTest::oddsMatter);
        Due.sentence("33 odds: BAD", () -> chancesBad(RindDates::odds));
        Due.sentence("33 odds: STATE: no WHEELS", () -> chancesState(RindDates::odds));
        Due.sentence("34 mid: the mean of ANGER then: n (0 .. 6) DAYS", ToldEdgesTest::midDays);
        Due.sentence("34 mid: by p (0 .. 12) of 12", ToldEdgesTest::midParts);
        Due.sentence("34 mid: BAD", () -> chancesBad(RindDates::mid));
        Due.sentence("34 mid: STATE: no WHEELS", () -> chancesState(RindDates::mid));
    }

    private static void oddsDays() {
        RindDates speaking = Due.farm("a2000000003 w10");
        Due.parts("now below the limit", speaking, speaking.odds(0, 0, 12), 0, 1);
        RindDates silent = Due.farm("a3000000003 w10");
        Due.parts("now at the limit", silent, silent.odds(0, 0, 0), 1, 1);
        Due.parts("behind a day of nothing", silent, silent.odds(1, 0, 0), 0, 1);
        RindDates x = Due.farm("a9000000003 w10");
        Due.parts("6 days of nothing leave the limit", x, x.odds(6, 0, 0), 1, 1);
        RindDates y = Due.farm("a9000000004 w10");
        Due.parts("6 days of nothing leave less", y, y.odds(6, 0, 0), 0, 1);
        Due.parts("5 days of nothing leave it", y, y.odds(5, 0, 0), 1, 1);
        Due.parts("6 days of sayings", y, y.odds(6, 0, 12), 1, 1);
    }

    private static void oddsParts() {
        RindDates x = Due.farm("a0000000003 w10");
        int[][] due = {{0, 1}, {1, 12}, {1, 6}, {1, 4}, {1, 3}, {5, 12}, {1, 2}, {7, 12}, {2, 3}, {3, 4}, {5, 6}, {11, 12}, {1, 1}};
        for (int p = 0; p <= 12; p++) {
            Due.parts("by " + p + " of 12", x, x.odds(1, 2, p), due[p][0], due[p][1]);
        }
        RindDates above = Due.farm("a0000000004 w10");
        Due.parts("ahead of its passing: 6 are 3", above, above.odds(1, 2, 12), 0, 1);
    }

    private static void oddsEach() {
        // On each of six days, by 12 at most, 11 and 6 are left; on five of these no more than 15.
        RindDates x = Due.farm("a0000000017 w10");
        Due.parts("on each of six days", x, x.odds(6, 1, 1), 1, 2985984);
        Due.parts("on each of six days, by half", x, x.odds(6, 1, 6), 1, 64);
        RindDates y = Due.farm("a0000000003 w10");
        // Silent by a saying on the last day; by sayings ahead of it alone 9, 6, 3 and less are left.
        Due.parts("two days", y, y.odds(2, 1, 4), 1, 3);
        Due.parts("two days, by 11 of 12", y, y.odds(2, 1, 11), 11, 12);
        Due.parts("three days: on the last, or on both ahead of it", y, y.odds(3, 1, 6), 5, 8);
    }

    private static void oddsMatter() {
        RindDates x = Due.farm("a9000900018 w10");
        Due.parts("of the hedge: 12 and 12, less 3", x, x.odds(1, 0, 12), 1, 1);
        Due.parts("nothing: 15", x, x.odds(1, 0, 0), 0, 1);
        RindDates full = Due.farm("a0000000022 w10");
        for (int k = 0; k < 4; k++) {
            full.say(3);
        }
        Due.parts("of the fullest: 12 and 12, less 3", full, full.odds(1, 3, 12), 0, 1);
        Due.parts("of another: 11, 10, 2, 1", full, full.odds(1, 2, 12), 1, 1);
    }

    private static void chancesBad(Chances call) {
        int[][] bad = {{-1, 0, 0}, {7, 0, 0}, {0, -1, 0}, {0, 4, 0}, {0, 0, -1}, {0, 0, 13}, {LEAST, 0, 0}, {GREATEST, 0, 0}, {0, LEAST, 0},
            {0, GREATEST, 0}, {0, 0, LEAST}, {0, 0, GREATEST}, {0, NONE, 0}};
        RindDates x = Due.farm("a1234567836 w10");
        RindDates none = new RindDates();
        for (int[] b : bad) {
            String numbers = b[0] + ", " + b[1] + ", " + b[2];
            Due.leaves("by " + numbers, x, () -> call.of(x, b[0], b[1], b[2]), BAD);
            Due.leaves("BAD ahead of STATE: " + numbers, none, () -> call.of(none, b[0], b[1], b[2]), BAD);
        }
        Due.is("the greatest of each", call.of(x, 6, 3, 12), 1);
        Due.is("the least of each", call.of(x, 0, 0, 0), 1);
    }

    private static void chancesState(Chances call) {
        RindDates none = new RindDates();
        Due.leaves("the least of each", none, () -> call.of(none, 0, 0, 0), STATE);
        Due.leaves("the greatest of each", none, () -> call.of(none, 6, 3, 12), STATE);
    }

    private static void midDays() {
        RindDates x = Due.farm("a9000000003 w10");
        for (int n = 0; n <= 6; n++) {
            Due.parts(n + " days of nothing", x, x.mid(n, 0, 0), 9 - n, 1);
        }
        RindDates y = Due.farm("a0000000060 w10");
        for (int n = 0; n <= 6; n++) {
            // Each leaves 3 more, to 12 less 1 of the elder.
            Due.parts(n + " days of sayings", y, y.mid(n, 3, 12), n == 6 ? 17 : 3 * n, 1);
        }
    }

    private static void midParts() {
        RindDates x = Due.farm("a0000000060 w10");
        int[][] due = {{0, 1}, {1, 4}, {1, 2}, {3, 4}, {1, 1}, {5, 4}, {3, 2}, {7, 4}, {2, 1}, {9, 4}, {5, 2}, {11, 4}, {3, 1}};
        for (int p = 0; p <= 12; p++) {
            Due.parts("by " + p + " of 12", x, x.mid(1, 0, p), due[p][0], due[p][1]);
        }
        // Of two days 6, 3 by the last alone, 1 by the first alone: 6 and 11 times 4 of 144.
        Due.parts("two days, by 1 of 12", x, x.mid(2, 0, 1), 25, 72);
        Due.is("no day passed", x.count(2), 0);
    }

    private static void lots() {
        Due.sentence("35 lots: n (1 .. 20) DEEDS truly", ToldEdgesTest::lotsMany);
        Due.sentence("35 lots: a number by 48271 times it modulo 2147483647, the first from the seed (1 .. 2147483646)",
            ToldEdgesTest::lotsSeeds);
        Due.sentence("35 lots: if it modulo 3 is 0, a SAYING about it by 8, cut, modulo 4", ToldEdgesTest::lotsSayings);
        Due.sentence("35 lots: modulo 3 is 1, and the WHEEL that it by 8, cut, modulo how many there are is not made",
            ToldEdgesTest::lotsWheels);
        Due.sentence("35 lots: else a DAY passes", ToldEdgesTest::lotsDays);
        Due.sentence("35 lots: BAD", ToldEdgesTest::lotsBad);
        Due.sentence("35 lots: STATE: no WHEELS", ToldEdgesTest::lotsState);
        Due.sentence("35 lots: FULL: with n more there would be more than 40 DEEDS", ToldEdgesTest::lotsFull);
        Due.sentence("35 lots: (FULL last.)", ToldEdgesTest::lotsOrder);
    }

    private static void lotsMany() {
        RindDates x = Due.farm("a1234567860" + SIX);
        int anger = x.lots(1, 7);
        Due.is("ANGER then", anger, x.count(3));
        Due.is("1 deed", x.count(2), 1);
        anger = x.lots(20, 7);
        Due.is("ANGER then", anger, x.count(3));
        Due.is("20 deeds", x.count(2), 21);
        long then = x.digest();
        Due.is("they can be undone", x.undo(1), 20);
        x.lots(20, 7);
        Due.is("the same lots, the same deeds", x.digest(), then);
        Due.is("lots tells nothing by asked()", x.asked(), 0);
    }

    private static void lotsSeeds() {
        // 48271 makes a wheel of six, 182605794 says the hedge.
        RindDates x = Due.farm("a0000000060" + SIX);
        Due.is("two from the seed 1", x.lots(2, 1), 6);
        Due.is("the wheel", x.count(5), 1 << 3);
        Due.is("the hedge", x.holds(0, 0), 3);
        // 2147483646 times 48271 leaves 2147435376.
        RindDates y = Due.farm("a0000000060" + SIX);
        Due.is("one from the greatest seed", y.lots(1, GREATEST - 1), 6);
        Due.is("drains", y.holds(0, 2), 3);
        // The number behind 48271 from the seed itself.
        RindDates z = Due.farm("a0000000060" + SIX);
        Due.is("the second of these alone", z.lots(1, 48271), 6);
        Due.is("the hedge", z.holds(1, 0), 3);
    }

    private static void lotsSayings() {
        int[] seeds = {9, 3, 12, 6};
        for (int m = 0; m < 4; m++) {
            RindDates x = Due.farm("a0000000060" + SIX);
            Due.is("from the seed " + seeds[m], x.lots(1, seeds[m]), 6);
            Due.is("the elder of " + m, x.holds(0, m), 3);
            Due.is("the younger of " + m, x.holds(1, m), 3);
            Due.is("no day", x.count(1), 0);
        }
    }

    private static void lotsWheels() {
        int[] made = {0, 1, 0, 1, 3, 3};
        for (int n = 1; n <= 6; n++) {
            RindDates x = Due.farm("a9000000001" + SIX.substring(0, 4 * n));
            Due.is("from the seed 1, of " + n, x.lots(1, 1), 9);
            Due.is("the wheel that is made", x.count(5), 1 << made[n - 1]);
            Due.is("no day", x.count(1), 0);
        }
        // 193084: it modulo 3 is 1, though it is even.
        RindDates even = Due.farm("a9000000001 w14");
        Due.is("from the seed 4", even.lots(1, 4), 9);
        Due.is("the wheel", even.count(5), 1);
    }

    private static void lotsDays() {
        RindDates x = Due.farm("a9000000001 w14");
        Due.is("modulo 3 is 2", x.lots(1, 2), 8);
        Due.is("a day", x.count(1), 1);
        Due.is("nothing made", x.count(5), 0);
        Due.is("a wheel is made", x.lots(1, 1), 8);
        Due.is("on day 1", x.count(1), 1);
        Due.is("it is made already", x.lots(1, 1), 7);
        Due.is("gone", x.count(5), 0);
        Due.is("it was made, though it is gone", x.lots(1, 1), 6);
        Due.is("four deeds", x.count(2), 4);
        Due.is("day 3", x.count(1), 3);
        // 241355: it modulo 3 is 2, though it is odd, and the wheel is not made.
        RindDates odd = Due.farm("a9000000001 w14");
        Due.is("from the seed 5", odd.lots(1, 5), 8);
        Due.is("a day, nothing made", odd.count(1) - odd.count(5), 1);
        RindDates sold = Due.farm("a9000000001 w94");
        sold.make(0);
        sold.sell(0);
        Due.is("it was made, though it is sold", sold.lots(1, 1), 8);
        Due.is("a day", sold.count(1), 1);
    }

    private static void lotsBad() {
        int[][] bad = {{0, 1}, {-1, 1}, {21, 1}, {LEAST, 1}, {GREATEST, 1}, {1, 0}, {1, -1}, {1, LEAST}, {1, GREATEST}, {0, 0}};
        RindDates x = Due.farm("a1234567836 w10");
        RindDates none = new RindDates();
        for (int[] b : bad) {
            Due.leaves("lots(" + b[0] + ", " + b[1] + ")", x, () -> x.lots(b[0], b[1]), BAD);
            Due.leaves("BAD ahead of STATE: lots(" + b[0] + ", " + b[1] + ")", none, () -> none.lots(b[0], b[1]), BAD);
        }
    }

    private static void lotsState() {
        RindDates none = new RindDates();
        Due.leaves("lots(1, 1)", none, () -> none.lots(1, 1), STATE);
        Due.leaves("lots(20, 2147483646)", none, () -> none.lots(20, GREATEST - 1), STATE);
    }

    private static void lotsFull() {
        RindDates x = Due.farm("a1234567860" + SIX);
        Due.days(x, 20);
        Due.is("20 more", x.lots(20, 5) >= 0 ? x.count(2) : -1, 40);
        Due.leaves("1 more than 40", x, () -> x.lots(1, 5), FULL);
        x.undo(21);
        Due.leaves("20 more than 21", x, () -> x.lots(20, 5), FULL);
        Due.is("19 more than 21", x.lots(19, 5) >= 0 ? x.count(2) : -1, 40);
        x.undo(39);
        Due.leaves("2 more than 39", x, () -> x.lots(2, 5), FULL);
        Due.is("1 more than 39", x.lots(1, 5) >= 0 ? x.count(2) : -1, 40);
    }

    private static void lotsOrder() {
        RindDates x = Due.farm("a1234567860 w10");
        Due.days(x, 40);
        Due.leaves("BAD ahead of FULL: n", x, () -> x.lots(21, 1), BAD);
        Due.leaves("BAD ahead of FULL: the seed", x, () -> x.lots(1, 0), BAD);
        Due.leaves("FULL", x, () -> x.lots(20, 1), FULL);
    }

    private static void asked() {
        Due.sentence("36 asked: what the latest of these told", ToldEdgesTest::askedEach);
        Due.sentence("36 asked: 0 before", ToldEdgesTest::askedBefore);
        Due.sentence("36 asked: that was not refused", ToldEdgesTest::askedRefused);
        Due.sentence("36 asked: (nor answered NONE)", ToldEdgesTest::askedNone);
        Due.sentence("36 asked: no other call tells by it", ToldEdgesTest::askedOthers);
    }

    private static void askedEach() {
        RindDates x = Due.farm("a1234567824 w14 r10");
        x.row(0, 1);
        x.lay(0, 0, LEAST);
        Due.is("lay()", x.asked(), 0);
        x.at(0, 0);
        Due.is("at()", x.asked(), LEAST);
        x.lay(0, 0, 30);
        Due.is("lay()", x.asked(), LEAST);
        x.mean(0);
        Due.is("mean()", x.asked(), 30);
        x.wheel(1, 4);
        Due.is("wheel(), though it is NONE", x.asked(), NONE);
        x.anger(1);
        Due.is("anger()", x.asked(), 1);
        x.peace();
        Due.is("peace()", x.asked(), 13);
        x.row(1, 1);
        x.through(1);
        Due.is("through()", x.asked(), 1);
        x.about(1);
        Due.is("about(), though it is NONE", x.asked(), NONE);
        x.lay(0, 0, 24);
        x.sure(0);
        Due.is("sure()", x.asked(), 0b1111);
        x.row(1, 0);
        x.test(0, 1);
        Due.is("test()", x.asked(), 2);
        Due.is("asked() again", x.asked(), 2);
    }

    private static void askedBefore() {
        RindDates x = new RindDates();
        Due.is("at first", x.asked(), 0);
        x.row(0, 1);
        x.at(0, 1);
        x.peace();
        x.wheel(0, 0);
        Due.is("behind refusals", x.asked(), 0);
    }

    /** All of these refused, with 77 told before. */
    private static void askedRefused() {
        RindDates x = Due.farm("a1234567824 w14 r10");
        Due.row(x, 0, 77);
        x.row(1, 0);
        Due.row(x, 3, 100);
        Due.tells("at(0, 0)", x, x.at(0, 0), 77);
        int refused = 0;
        int[] answers = {x.lay(0, 1, 1), x.at(2, 0), x.mean(1), x.wheel(0, 7), x.anger(21), x.through(0), x.about(1), x.sure(1),
            x.sure(3), x.test(0, 0), x.mean(6)};
        for (int answer : answers) {
            refused += answer == BAD || answer == RindDates.FINDING ? 1 : 0;
        }
        Due.is("these are refused", refused, answers.length);
        Due.is("asked()", x.asked(), 77);
    }

    private static void askedNone() {
        RindDates x = Due.farm("a0000000060 w10");
        Due.row(x, 0, 0, 5);
        Due.tells("at(0, 1)", x, x.at(0, 1), 5);
        Due.is("test() of no kind", x.test(0, 0), NONE);
        Due.is("asked()", x.asked(), 5);
        Due.is("plan() by none", x.plan(0, 0, 60, 0), NONE);
        Due.is("asked()", x.asked(), 5);
        Due.is("fault() of none", x.fault(0), NONE);
        Due.is("asked()", x.asked(), 5);
    }

    private static void askedOthers() {
        RindDates x = Due.farm("a1234567824 w94 o90 r10");
        Due.row(x, 0, 77);
        x.row(1, 0);
        Due.tells("at(0, 0)", x, x.at(0, 0), 77);
        int[] answers = {x.row(2, 3), x.copy(0, 0, 2, 0, 1), x.tear(2), x.text(1, 3), x.put(1, 0, 5), x.mark(1, 1), x.holds(0, 0), x.day(),
            x.say(0), x.make(0), x.sell(0), x.undo(3), x.keep(0), x.on(0), x.plan(0, 1, 0, 3), x.salts(0, 1), x.kinds(0, 1),
            x.shows(1, 4), x.duel(1), x.odds(1, 1, 1), x.mid(1, 1, 1), x.lots(1, 1), x.count(3), x.finding(), x.findings(1), x.farm(0)};
        int well = 0;
        for (int answer : answers) {
            well += answer >= 0 ? 1 : 0;
        }
        Due.is("none of these is refused", well, answers.length);
        x.digest();
        x.upper();
        x.lower();
        Due.is("asked()", x.asked(), 77);
    }

    private static void uppers() {
        Due.sentence("37 upper: the upper number that was told last; 0 before", ToldEdgesTest::upperLast);
        Due.sentence("38 lower: its lower number; 1 before", ToldEdgesTest::lowerLast);
        Due.sentence("37, 38: what is refused tells none", ToldEdgesTest::upperRefused);
    }

    private static void upperLast() {
        Due.is("at first", new RindDates().upper(), 0);
        RindDates x = Due.farm("a0000000003 w10");
        Due.is("with a farm", x.upper(), 0);
        x.odds(1, 0, 10);
        Due.is("by odds()", x.upper(), 5);
        x.mid(1, 0, 7);
        Due.is("by mid()", x.upper(), 7);
        Due.row(x, 0, 3, 4);
        x.about(0);
        Due.is("by about()", x.upper(), 12);
        x.odds(0, 0, 0);
        Due.is("0", x.upper(), 0);
        Due.is("again", x.upper(), 0);
    }

    private static void lowerLast() {
        Due.is("at first", new RindDates().lower(), 1);
        RindDates x = Due.farm("a0000000003 w10");
        Due.is("with a farm", x.lower(), 1);
        x.odds(1, 0, 10);
        Due.is("by odds()", x.lower(), 6);
        x.mid(1, 0, 7);
        Due.is("by mid()", x.lower(), 4);
        Due.row(x, 0, 3, 4);
        x.about(0);
        Due.is("by about()", x.lower(), 1);
        x.odds(6, 0, 1);
        Due.is("lower numbers are above ints' thousands", x.lower() > 1000 ? 1 : 0, 1);
        x.odds(0, 0, 0);
        Due.is("of 0", x.lower(), 1);
    }

    private static void upperRefused() {
        RindDates x = Due.farm("a0000000003 w10");
        x.odds(1, 0, 10);
        x.odds(7, 0, 0);
        x.mid(0, 0, 13);
        x.row(0, 0);
        x.about(0);
        x.about(5);
        x.about(6);
        Due.is("upper()", x.upper(), 5);
        Due.is("lower()", x.lower(), 6);
    }

    private static void counts() {
        Due.sentence("39 count: 0 WHEELS (0 to 6)", ToldEdgesTest::countWheels);
        Due.sentence("39 count: 1 the DAY, 2 DEEDS (0 to 40)", ToldEdgesTest::countDeeds);
        Due.sentence("39 count: 3 ANGER (0 to 96)", ToldEdgesTest::countAnger);
        Due.sentence("39 count: 4 whether they are SILENT (1, 0; 0 without WHEELS)", ToldEdgesTest::countSilent);
        Due.sentence("39 count: 5 WHEELS on the SHELF (bits), 6 all RIND of these", ToldEdgesTest::countShelf);
        Due.sentence("39 count: 7 OLD ones (SHOWS, LONG ones, too)", ToldEdgesTest::countOld);
        Due.sentence("39 count: 8 ROWS, 9 TEXTS that are there", ToldEdgesTest::countRows);
        Due.sentence("39 count: 10 kept FARMS", ToldEdgesTest::countKept);
        Due.sentence("39 count: BAD", ToldEdgesTest::countBad);
    }

    private static void countWheels() {
        Due.is("none", new RindDates().count(0), 0);
        for (int n = 1; n <= 6; n++) {
            Due.is("of " + n, Due.farm("a1234567860" + SIX.substring(0, 4 * n)).count(0), n);
        }
    }

    private static void countDeeds() {
        RindDates x = Due.farm("a1234567860 w10");
        Due.is("day 0", x.count(1), 0);
        Due.is("no deeds", x.count(2), 0);
        x.say(0);
        x.make(0);
        Due.is("day 0 still", x.count(1), 0);
        Due.is("two deeds", x.count(2), 2);
        Due.days(x, 38);
        Due.is("day 38", x.count(1), 38);
        Due.is("40 deeds", x.count(2), 40);
    }

    private static void countAnger() {
        Due.is("without wheels", new RindDates().count(3), 0);
        RindDates x = Due.farm("a0000000060 w10");
        Due.is("none", x.count(3), 0);
        for (int k = 0; k < 16; k++) {
            x.say(k % 4);
        }
        Due.is("the most", x.count(3), 96);
    }

    private static void countSilent() {
        Due.is("without wheels", new RindDates().count(4), 0);
        Due.is("below the limit", Due.farm("a4000000005 w10").count(4), 0);
        Due.is("at the limit", Due.farm("a5000000005 w10").count(4), 1);
        Due.is("above the limit", Due.farm("a6000000005 w10").count(4), 1);
    }

    private static void countShelf() {
        RindDates x = Due.farm("a0000000060 w91 w92 w93 w94 w95 w19");
        int rind = 0;
        for (int i = 0; i < 6; i++) {
            x.make(i);
            rind += i < 5 ? i + 1 : 9;
            Due.is("bits of " + (i + 1), x.count(5), (2 << i) - 1);
            Due.is("rind of these", x.count(6), rind);
        }
        x.day();
        Due.is("bits without the one that is gone", x.count(5), 31);
        Due.is("rind without it", x.count(6), 15);
        x.sell(0);
        x.sell(4);
        Due.is("bits without those that are sold", x.count(5), 14);
        Due.is("rind without these", x.count(6), 9);
        Due.days(x, 8);
        Due.is("no bits", x.count(5), 0);
        Due.is("no rind", x.count(6), 0);
        Due.is("none without wheels", new RindDates().count(5), 0);
    }

    private static void countOld() {
        Due.is("without wheels", new RindDates().count(7), 0);
        Due.is("none", Due.farm("a1234567860 w10 y10 r10").count(7), 0);
        Due.is("one of each", Due.farm("a1234567860" + SIX).count(7), 3);
        Due.is("an old one", Due.farm("a1234567860 o10").count(7), 1);
        Due.is("a show", Due.farm("a1234567860 s10").count(7), 1);
        Due.is("a long one", Due.farm("a1234567860 l10").count(7), 1);
        Due.is("six", Due.farm("a1234567860 l10 l10 o10 s10 s10 o10").count(7), 6);
    }

    private static void countRows() {
        RindDates x = new RindDates();
        for (int r = 0; r <= 5; r++) {
            x.row(r, r == 3 ? 0 : 40);
            Due.is("rows", x.count(8), r + 1);
        }
        for (int t = 0; t <= 3; t++) {
            x.text(t, t == 2 ? 0 : 60);
            Due.is("texts", x.count(9), t + 1);
        }
        x.row(0, 1);
        x.text(0, 1);
        Due.is("anew is no more of rows", x.count(8), 6);
        Due.is("anew is no more of texts", x.count(9), 4);
        x.tear(3);
        Due.is("torn is one less", x.count(8), 5);
    }

    private static void countKept() {
        Due.is("without wheels", new RindDates().count(10), 0);
        RindDates x = Due.farm("a1234567860 w10");
        Due.is("none", x.count(10), 0);
        for (int k = 0; k <= 2; k++) {
            x.keep(k);
            x.keep(k);
            Due.is("kept", x.count(10), k + 1);
        }
        x.farm(0);
        Due.is("behind a farm anew", x.count(10), 0);
    }

    private static void countBad() {
        RindDates x = Due.farm("a1234567860 w10");
        int[] bad = {-1, 11, NONE, LEAST, GREATEST};
        for (int what : bad) {
            Due.leaves("count(" + what + ")", x, () -> x.count(what), BAD);
        }
    }

    private static void findings() {
        Due.sentence("40 finding: the latest FINDING", ToldEdgesTest::findingLatest);
        Due.sentence("40 finding: (0 before any)", ToldEdgesTest::findingBefore);
        Due.sentence("41 findings: how often a FINDING (1 .. 5) was answered", ToldEdgesTest::findingsOften);
        Due.sentence("41 findings: BAD", ToldEdgesTest::findingsBad);
    }

    private static void findingLatest() {
        RindDates x = Due.farm("a1234567860 w10");
        x.row(0, 0);
        x.row(0, -1);
        Due.is("SIZE", x.finding(), SIZE);
        x.mean(0);
        Due.is("NOUGHT", x.finding(), NOUGHT);
        x.mark(0, 1);
        Due.is("UNLIKE", x.finding(), UNLIKE);
        x.at(0, 0);
        Due.is("BEYOND", x.finding(), BEYOND);
        x.at(1, 0);
        Due.is("NOTHING", x.finding(), NOTHING);
        x.at(6, 0);
        x.sell(0);
        x.plan(0, 0, 60, 0);
        x.day();
        x.farm(0);
        Due.is("it stays by what is no finding", x.finding(), NOTHING);
    }

    private static void findingBefore() {
        RindDates x = new RindDates();
        Due.is("at first", x.finding(), 0);
        x.row(6, 0);
        x.day();
        x.count(11);
        x.row(0, 2);
        Due.is("behind what is no finding", x.finding(), 0);
        for (int f = 1; f <= 5; f++) {
            Due.is("findings(" + f + ")", x.findings(f), 0);
        }
    }

    private static void findingsOften() {
        RindDates x = Due.farm("a1234567860 w10");
        x.row(0, 0);
        for (int k = 0; k < 50; k++) {
            x.tear(5);
        }
        for (int k = 0; k < 5; k++) {
            x.mean(0);
            x.text(0, -1);
            x.text(0, -1);
        }
        x.at(0, 0);
        x.mark(0, 5);
        x.mark(0, 1);
        int[] often = {50, 1, 2, 5, 10};
        for (int f = 1; f <= 5; f++) {
            Due.is("findings(" + f + ")", x.findings(f), often[f - 1]);
        }
    }

    private static void findingsBad() {
        RindDates x = new RindDates();
        x.at(0, 0);
        int[] bad = {0, 6, -1, NONE, LEAST, GREATEST};
        for (int f : bad) {
            Due.leaves("findings(" + f + ")", x, () -> x.findings(f), BAD);
        }
    }

    private static void digests() {
        Due.sentence("42 digest: of a new object", ToldEdgesTest::digestNew);
        Due.sentence("42 digest: of each kept FARM how many DEEDS (-1: missing)", ToldEdgesTest::digestKept);
        Due.sentence("42 digest: of each ROW its size (-1: missing) and places", ToldEdgesTest::digestRows);
        Due.sentence("42 digest: of each TEXT likewise", ToldEdgesTest::digestTexts);
        Due.sentence("42 digest: holds() of the elder, then of the younger; of each WHEEL wheel() 0 to 6", ToldEdgesTest::digestFarm);
        Due.sentence("42 digest: asked() stays", ToldEdgesTest::digestAsked);
        Due.sentence("What it is: an object is used for at most 512 calls", ToldEdgesTest::mostCalls);
    }

    private static long mix(long h, int... values) {
        long mixed = h;
        for (int v : values) {
            mixed = 31 * mixed + v;
        }
        return mixed;
    }

    /** Counts, and nothing held, no wheels, none kept. */
    private static long withoutFarm(int rows, int texts) {
        long h = mix(17, 0, 0, 0, 0, 0, 0, 0, 0, rows, texts, 0);
        return mix(h, 0, 0, 0, 0, 0, 0, 0, 0, -1, -1, -1);
    }

    private static void digestNew() {
        long h = mix(withoutFarm(0, 0), -1, -1, -1, -1, -1, -1);
        Due.is("digest()", new RindDates().digest(), mix(h, -1, -1, -1, -1));
    }

    private static void digestRows() {
        RindDates x = new RindDates();
        x.row(0, 0);
        Due.row(x, 2, LEAST, GREATEST, -1);
        x.row(5, 40);
        long h = mix(withoutFarm(3, 0), 0, -1, 3, LEAST, GREATEST, -1, -1, -1, 40);
        h = mix(mix(h, new int[40]), -1, -1, -1, -1);
        Due.is("digest()", x.digest(), h);
        x.tear(0);
        x.tear(2);
        x.tear(5);
        h = mix(withoutFarm(0, 0), -1, -1, -1, -1, -1, -1);
        Due.is("digest(), torn", x.digest(), mix(h, -1, -1, -1, -1));
    }

    private static void digestTexts() {
        RindDates x = new RindDates();
        x.text(0, 0);
        x.text(3, 3);
        x.put(3, 0, 255);
        x.put(3, 2, 128);
        long h = mix(withoutFarm(0, 2), -1, -1, -1, -1, -1, -1);
        Due.is("digest()", x.digest(), mix(h, 0, -1, -1, 3, -1, 32, -128));
    }

    private static void digestKept() {
        RindDates x = Due.farm("a0000000060w94");
        x.keep(1);
        Due.days(x, 2);
        x.keep(2);
        x.text(0, 0);
        long h = mix(17, 1, 2, 2, 0, 0, 0, 0, 0, 0, 1, 2);
        h = mix(h, 0, 0, 0, 0, 0, 0, 0, 0);
        h = mix(h, 0, 9, 4, NONE, NONE, 0, 4);
        h = mix(h, -1, 0, 2);
        h = mix(h, -1, -1, -1, -1, -1, -1);
        Due.is("digest()", x.digest(), mix(h, 0, -1, -1, -1));
    }

    private static void digestFarm() {
        RindDates x = Due.farm("a1234567836w94l19");
        x.make(0);
        x.make(1);
        x.day();
        x.text(0, 0);
        long h = mix(17, 2, 1, 3, 24, 0, 1, 26, 1, 0, 1, 0);
        h = mix(h, 0, 1, 2, 3, 3, 4, 5, 6);
        h = mix(h, 0, 9, 4, 0, 26, 1, 10);
        h = mix(h, 5, 1, 9, 0, 25, 0, 22);
        h = mix(h, -1, -1, -1);
        h = mix(h, -1, -1, -1, -1, -1, -1);
        Due.is("digest()", x.digest(), mix(h, 0, -1, -1, -1));
    }

    private static void digestAsked() {
        RindDates x = Due.farm("a1234567836w94l19");
        Due.tells("wheel(1, 2)", x, x.wheel(1, 2), 9);
        long first = x.digest();
        Due.is("asked()", x.asked(), 9);
        x.at(6, 6);
        x.tear(0);
        x.odds(1, 1, 1);
        x.peace();
        Due.is("what is told, and findings, are no part of it", x.digest(), first);
    }

    private static void mostCalls() {
        RindDates x = new RindDates();
        x.text(0, 14);
        String signs = "a0000000060w94";
        for (int i = 0; i < 14; i++) {
            x.put(0, i, signs.charAt(i));
        }
        x.farm(0);
        int calls = 16;
        for (; calls < 504; calls += 4) {
            x.lots(1, calls);
            x.keep(calls % 3);
            x.undo(0);
            x.on((calls + 1) % 3);
        }
        x.undo(0);
        x.say(3);
        x.make(0);
        x.keep(0);
        x.day();
        x.on(0);
        Due.is("the 511th call", x.sell(0), 5);
        Due.is("the 512th call", x.undo(0), 3);
    }
}
