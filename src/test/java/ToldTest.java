/** Promises 32 to 42: duel, odds, mid, lots, asked, upper, lower, count, finding, findings, digest. */
public final class ToldTest {
    private static final int BAD = RindDates.BAD, FULL = RindDates.FULL, STATE = RindDates.STATE, NONE = RindDates.NONE;

    public static void main(String[] args) {
        constants();
        promise32();
        promise33();
        promise34();
        refusalsOfChances();
        promise35();
        promise36();
        promise37And38();
        promise39();
        promise40And41();
        promise42();
        Due.close("ToldTest");
    }

    private static void constants() {
        Due.is("BAD", RindDates.BAD, -1);
        Due.is("FULL", RindDates.FULL, -2);
        Due.is("FINDING", RindDates.FINDING, -3);
        Due.is("STATE", RindDates.STATE, -4);
        Due.is("SPENT", RindDates.SPENT, -6);
        Due.is("NONE", RindDates.NONE, -9);
    }

    private static void promise32() {
        RindDates x = Due.farm("a9000000060 w10");
        int[] angers = {9, 15, 6, 12, 9, 15};
        for (int n = 0; n < angers.length; n++) {
            Due.is("duel(" + n + ")", x.duel(n), angers[n]);
        }
        Due.is("nothing was said", x.count(3), 9);
        Due.is("no deeds", x.count(2), 0);
        RindDates younger = Due.farm("a0000000960 w10");
        Due.is("the younger one forgets", younger.duel(2), 6);
        RindDates full = Due.farm("a0000000060 w10");
        for (int k = 0; k < 16; k++) {
            full.say(k / 4);
        }
        Due.is("no more can be held", full.duel(1), 96);
        Due.is("the aunt takes 12", full.duel(2), 84);
        Due.is("the nephew 3 of it", full.duel(3), 87);
        Due.is("duel(6)", x.duel(6), BAD);
        Due.is("duel(-1)", x.duel(-1), BAD);
        RindDates none = new RindDates();
        Due.is("without wheels", none.duel(0), STATE);
        Due.is("BAD ahead of STATE", none.duel(6), BAD);
    }

    private static void fraction(String call, RindDates x, int got, long upper, long lower) {
        Due.is(call, got, 1);
        Due.is(call + " by upper()", x.upper(), upper);
        Due.is(call + " by lower()", x.lower(), lower);
    }

    private static void promise33() {
        RindDates x = Due.farm("a0000000003 w10");
        fraction("now", x, x.odds(0, 0, 12), 0, 1);
        fraction("behind one day by 4 of 12", x, x.odds(1, 0, 4), 1, 3);
        fraction("never", x, x.odds(1, 0, 0), 0, 1);
        fraction("always", x, x.odds(1, 0, 12), 1, 1);
        // By 2 days: said on the second (3 or more), or on the first alone (1).
        fraction("behind two days", x, x.odds(2, 3, 5), 5, 12);
        fraction("behind six days, always", x, x.odds(6, 3, 12), 1, 1);
        fraction("behind six days, never", x, x.odds(6, 3, 0), 0, 1);
        RindDates y = Due.farm("a0000000006 w10");
        fraction("twice", y, y.odds(2, 1, 5), 25, 144);
        Due.is("no day passed", y.count(2), 0);
        RindDates z = Due.farm("a1000000001 w10");
        fraction("silent now", z, z.odds(0, 0, 0), 1, 1);
    }

    private static void promise34() {
        RindDates x = Due.farm("a1234567824 w10");
        fraction("now", x, x.mid(0, 0, 12), 36, 1);
        fraction("nothing is said", x, x.mid(1, 0, 0), 24, 1);
        fraction("it is said", x, x.mid(1, 0, 12), 30, 1);
        fraction("it may be said", x, x.mid(1, 0, 5), 53, 2);
        fraction("it may be said", x, x.mid(1, 0, 1), 49, 2);
        RindDates y = Due.farm("a0000000060 w10");
        fraction("never", y, y.mid(6, 0, 0), 0, 1);
        fraction("in lowest terms", y, y.mid(1, 0, 4), 1, 1);
        // Twice 6, on the second alone 3, on the first alone 1.
        fraction("behind two days", y, y.mid(2, 0, 6), 5, 2);
        Due.is("no day passed", y.count(2), 0);
    }

    private static void refusalsOfChances() {
        RindDates x = Due.farm("a1234567824 w10");
        RindDates none = new RindDates();
        int[][] bad = {{7, 0, 0}, {-1, 0, 0}, {0, 4, 0}, {0, -1, 0}, {0, 0, 13}, {0, 0, -1}};
        for (int[] b : bad) {
            Due.is("odds", x.odds(b[0], b[1], b[2]), BAD);
            Due.is("mid", x.mid(b[0], b[1], b[2]), BAD);
            Due.is("odds: BAD ahead of STATE", none.odds(b[0], b[1], b[2]), BAD);
            Due.is("mid: BAD ahead of STATE", none.mid(b[0], b[1], b[2]), BAD);
        }
        Due.is("odds without wheels", none.odds(6, 3, 12), STATE);
        Due.is("mid without wheels", none.mid(6, 3, 12), STATE);
        Due.is("refused tells nothing", x.lower() + none.upper(), 1);
    }

    private static void promise35() {
        RindDates x = Due.farm("a1234567860 w34 o52 y71");
        RindDates y = Due.farm("a1234567860 w34 o52 y71");
        boolean[] made = new boolean[3];
        int[] kinds = new int[3];
        long number = 31337;
        for (int k = 0; k < 20; k++) {
            number = number * 48271 % 2147483647L;
            int choice = (int) (number / 8);
            if (number % 3 == 0) {
                y.say(choice % 4);
                kinds[0]++;
            } else if (number % 3 == 1 && !made[choice % 3]) {
                y.make(choice % 3);
                made[choice % 3] = true;
                kinds[1]++;
            } else {
                y.day();
                kinds[2]++;
            }
        }
        Due.is("all of these", kinds[0] > 0 && kinds[1] > 1 && kinds[2] > 0 ? 1 : 0, 1);
        Due.is("lots(20, 31337)", x.lots(20, 31337), y.count(3));
        Due.is("as by hand", x.digest(), y.digest());
        Due.is("20 deeds", x.count(2), 20);
        x.undo(19);
        Due.is("21 more than fit", x.lots(20, 1), y.lots(20, 1) - y.count(3) + x.count(3));
        RindDates z = Due.farm("a1234567860 w34");
        z.lots(20, 2147483646);
        Due.is("39 deeds", z.lots(19, 1) == z.count(3) ? z.count(2) : 0, 39);
        long before = z.digest();
        Due.is("2 more", z.lots(2, 5), FULL);
        Due.is("refused does none", z.digest(), before);
        Due.is("1 more", z.lots(1, 5), z.count(3));
        Due.is("40 deeds", z.count(2), 40);
        Due.is("1 more than fits", z.lots(1, 5), FULL);
        int[][] bad = {{0, 1}, {-1, 1}, {21, 1}, {1, 0}, {1, -1}, {1, Integer.MIN_VALUE}, {1, Integer.MAX_VALUE}};
        RindDates none = new RindDates();
        for (int[] b : bad) {
            Due.is("lots(" + b[0] + ", " + b[1] + ")", z.lots(b[0], b[1]), BAD);
            Due.is("BAD ahead of STATE", none.lots(b[0], b[1]), BAD);
        }
        Due.is("without wheels", none.lots(1, 1), STATE);
        sold();
    }

    /** One that was made and sold is not made again by lots: 48271 modulo 3 is 1. */
    private static void sold() {
        RindDates x = Due.farm("a0000000060 w14");
        Due.is("by lots it is made", x.lots(1, 1), 0);
        Due.is("on the shelf", x.count(5), 1);
        x.sell(0);
        x.lots(1, 1);
        Due.is("a day passed", x.count(1), 1);
        Due.is("three deeds", x.count(2), 3);
    }

    private static void promise36() {
        RindDates x = Due.farm("a1234567824 w14");
        Due.is("put, text, fault, farm tell nothing", x.asked(), 0);
        Due.row(x, 0, 30);
        x.at(0, 0);
        Due.is("at", x.asked(), 30);
        x.wheel(0, 2);
        Due.is("wheel", x.asked(), 4);
        x.count(3);
        x.holds(1, 3);
        x.upper();
        x.odds(1, 1, 1);
        x.mid(1, 1, 1);
        x.duel(2);
        x.plan(0, 1, 3, 1);
        x.salts(0, 2);
        x.kinds(0, 2);
        x.shows(2, 3);
        x.keep(0);
        x.digest();
        x.mark(0, 1);
        x.test(0, 0);
        Due.is("these tell nothing by it", x.asked(), 4);
        x.mean(0);
        Due.is("mean", x.asked(), 30);
        x.anger(0);
        Due.is("anger", x.asked(), 1);
        x.peace();
        Due.is("peace", x.asked(), 13);
        x.about(0);
        Due.is("about", x.asked(), 0);
        x.sure(0);
        Due.is("sure", x.asked(), 0);
        x.lay(0, 0, 2);
        Due.is("lay", x.asked(), 30);
        x.row(2, 0);
        x.test(0, 2);
        Due.is("test", x.asked(), 2);
        x.through(2);
        Due.is("through", x.asked(), 0);
        x.wheel(0, 3);
        Due.is("wheel, NONE", x.asked(), NONE);
        x.day();
        x.say(0);
        x.make(0);
        x.sell(0);
        x.undo(0);
        x.lots(3, 3);
        x.on(0);
        x.farm(0);
        x.tear(0);
        x.copy(2, 0, 2, 0, 0);
        Due.is("nor these", x.asked(), NONE);
    }

    private static void promise37And38() {
        RindDates x = Due.farm("a0000000003 w10");
        x.odds(1, 0, 4);
        Due.is("upper()", x.upper(), 1);
        Due.is("lower()", x.lower(), 3);
        x.mid(1, 0, 2);
        Due.is("upper() by mid", x.upper(), 1);
        Due.is("lower() by mid", x.lower(), 2);
        x.odds(7, 0, 4);
        x.duel(1);
        x.farm(0);
        Due.is("upper() stays", x.upper(), 1);
        Due.is("lower() stays", x.lower(), 2);
        Due.row(x, 0, 3);
        x.sure(0);
        Due.is("sure() tells none", x.lower(), 2);
        x.about(0);
        Due.is("upper() by about", x.upper(), 4);
        Due.is("lower() by about", x.lower(), 1);
    }

    private static void promise39() {
        RindDates x = Due.farm("a3140520217 w34 o52 y71 s95 r43 l80");
        x.row(0, 1);
        x.row(4, 0);
        x.text(3, 0);
        x.keep(1);
        x.say(0);
        x.make(0);
        x.make(3);
        x.make(4);
        x.day();
        x.sell(3);
        int[] counts = {6, 1, 6, 14, 0, 0b010001, 18 + 8, 3, 2, 2, 1};
        for (int what = 0; what < counts.length; what++) {
            Due.is("count(" + what + ")", x.count(what), counts[what]);
        }
        x.undo(0);
        Due.is("silent at the limit", x.count(4), 1);
        Due.is("old ones of these", Due.farm("a0000000001 l10 w10 l10 s10 o10").count(7), 4);
        Due.is("count(11)", x.count(11), BAD);
        Due.is("count(-1)", x.count(-1), BAD);
        Due.is("not silent without wheels", new RindDates().count(4), 0);
    }

    private static void promise40And41() {
        RindDates x = new RindDates();
        x.row(0, 1);
        x.row(1, 0);
        x.tear(5);
        x.tear(5);
        Due.is("NOTHING", x.finding(), 1);
        x.at(0, 1);
        Due.is("BEYOND", x.finding(), 2);
        x.mean(1);
        x.mean(1);
        x.mean(1);
        Due.is("NOUGHT", x.finding(), 4);
        x.row(0, -1);
        Due.is("SIZE", x.finding(), 5);
        x.row(6, 1);
        x.day();
        x.farm(6);
        x.row(2, 2);
        Due.is("others leave it", x.finding(), 5);
        int[] often = {2, 1, 0, 3, 1};
        for (int f = 1; f <= 5; f++) {
            Due.is("findings(" + f + ")", x.findings(f), often[f - 1]);
        }
        Due.text(x, 0, "a1234567824 w10");
        x.farm(0);
        x.mark(0, 1);
        Due.is("UNLIKE", x.finding(), 3);
        Due.is("findings(3)", x.findings(3), 1);
        Due.is("findings(0)", x.findings(0), BAD);
        Due.is("findings(6)", x.findings(6), BAD);
        Due.is("findings(-1)", x.findings(-1), BAD);
    }

    private static long mix(long h, int... values) {
        long mixed = h;
        for (int v : values) {
            mixed = 31 * mixed + v;
        }
        return mixed;
    }

    private static void promise42() {
        RindDates x = new RindDates();
        long h = mix(17, new int[11]);
        h = mix(h, new int[8]);
        h = mix(h, -1, -1, -1);
        h = mix(h, -1, -1, -1, -1, -1, -1);
        h = mix(h, -1, -1, -1, -1);
        Due.is("a new one", x.digest(), h);
        Due.text(x, 0, "a3140520217w34o52");
        x.farm(0);
        x.say(0);
        x.keep(1);
        x.make(1);
        Due.text(x, 0, "a");
        x.text(2, 2);
        x.put(2, 1, -1);
        Due.row(x, 5, -7, 8);
        x.row(1, 0);
        int asked = x.asked();
        h = mix(17, 2, 0, 2, 23, 1, 2, 16, 1, 2, 2, 1);
        h = mix(h, 6, 1, 4, 0, 8, 2, 0, 2);
        h = mix(h, 0, 3, 4, NONE, NONE, 0, 18);
        h = mix(h, 1, 5, 2, 0, 16, 1, 16);
        h = mix(h, -1, 1, -1);
        h = mix(h, -1, 0, -1, -1, -1, 2, -7, 8);
        h = mix(h, 1, 'a', -1, 2, 32, -1, -1);
        Due.is("one in use", x.digest(), h);
        Due.is("asked() stays", x.asked(), asked);
        x.at(0, 0);
        x.odds(1, 1, 1);
        Due.is("what is told is no part of it", x.digest(), h);
    }
}
