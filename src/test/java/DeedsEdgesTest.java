/** Promises 16 to 22: each sentence that names a boundary case, by a test of its own. */
public final class DeedsEdgesTest {
    private static final int BAD = RindDates.BAD, FULL = RindDates.FULL, STATE = RindDates.STATE, NONE = RindDates.NONE;
    private static final int NOTHING = 1;
    private static final int LEAST = Integer.MIN_VALUE, GREATEST = Integer.MAX_VALUE;

    public static void main(String[] args) {
        days();
        sayings();
        made();
        sold();
        undone();
        kept();
        Due.close("DeedsEdgesTest");
    }

    /** Days up to so many deeds. */
    private static RindDates filled(RindDates x, int deeds) {
        Due.days(x, deeds - x.count(2));
        Due.is("deeds", x.count(2), deeds);
        return x;
    }

    private static void days() {
        Due.sentence("16 day: a DAY passes: ANGER then", DeedsEdgesTest::dayPasses);
        Due.sentence("16 day: STATE: no WHEELS", DeedsEdgesTest::dayState);
        Due.sentence("16 day: FULL: 40 DEEDS", DeedsEdgesTest::dayFull);
    }

    private static void dayPasses() {
        RindDates x = Due.farm("a1000200060 w10");
        Due.is("day()", x.day(), 0);
        Due.is("the day", x.count(1), 1);
        Due.is("by no anger", x.day(), 0);
        Due.is("the next day", x.count(1), 2);
        Due.is("two deeds", x.count(2), 2);
        Due.is("day() tells nothing by asked()", x.asked(), 0);
    }

    private static void dayState() {
        RindDates none = new RindDates();
        Due.leaves("day()", none, none::day, STATE);
        none.text(0, 5);
        none.farm(0);
        Due.leaves("behind a farm that was refused", none, none::day, STATE);
    }

    private static void dayFull() {
        RindDates x = filled(Due.farm("a1234567860 w10"), 39);
        Due.is("the 40th deed", x.day(), 0);
        Due.is("day 40", x.count(1), 40);
        Due.leaves("the 41st", x, x::day, FULL);
        x.undo(39);
        Due.is("the 40th again", x.day(), 0);
    }

    private static void sayings() {
        Due.sentence("17 say: a SAYING: ANGER then", DeedsEdgesTest::saySome);
        Due.sentence("17 say: BAD", DeedsEdgesTest::sayBad);
        Due.sentence("17 say: STATE: no WHEELS", DeedsEdgesTest::sayState);
        Due.sentence("17 say: FULL", DeedsEdgesTest::sayFull);
        Due.sentence("17 say: (FULL last.)", DeedsEdgesTest::sayOrder);
    }

    private static void saySome() {
        RindDates x = Due.farm("a0000000060 w10");
        Due.is("the first matter", x.say(0), 6);
        Due.is("the last matter", x.say(3), 12);
        Due.is("deeds", x.count(2), 2);
        Due.is("no day", x.count(1), 0);
        for (int m = 0; m < 16; m++) {
            x.say(m % 4);
        }
        Due.is("the most", x.say(2), 96);
    }

    private static void sayBad() {
        RindDates x = Due.farm("a1234567860 w10");
        int[] bad = {-1, 4, NONE, LEAST, GREATEST};
        for (int m : bad) {
            Due.leaves("say(" + m + ")", x, () -> x.say(m), BAD);
        }
        RindDates none = new RindDates();
        Due.leaves("BAD ahead of STATE", none, () -> none.say(NONE), BAD);
    }

    private static void sayState() {
        RindDates none = new RindDates();
        Due.leaves("say(0)", none, () -> none.say(0), STATE);
        Due.leaves("say(3)", none, () -> none.say(3), STATE);
    }

    private static void sayFull() {
        RindDates x = filled(Due.farm("a1234567860 w10"), 39);
        Due.is("the 40th deed", x.say(3), 6);
        Due.leaves("the 41st", x, () -> x.say(3), FULL);
    }

    private static void sayOrder() {
        RindDates x = filled(Due.farm("a1234567860 w10"), 40);
        Due.leaves("BAD ahead of FULL: -1", x, () -> x.say(-1), BAD);
        Due.leaves("BAD ahead of FULL: 4", x, () -> x.say(4), BAD);
        Due.leaves("FULL", x, () -> x.say(0), FULL);
    }

    private static void made() {
        Due.sentence("18 make: a WHEEL is made: its RIND", DeedsEdgesTest::makeSome);
        Due.sentence("18 make: BAD", DeedsEdgesTest::makeBad);
        Due.sentence("18 make: STATE: it was", DeedsEdgesTest::makeState);
        Due.sentence("18 make: FULL", DeedsEdgesTest::makeFull);
        Due.sentence("18 make: (FULL last.)", DeedsEdgesTest::makeOrder);
    }

    private static void makeSome() {
        RindDates x = Due.farm("a9999999901 w19 o19 y19 s19 r19 l19");
        int[] rinds = {54, 56, 27, 20, 27, 25};
        for (int i = 5; i >= 0; i--) {
            Due.is("make(" + i + ")", x.make(i), rinds[i]);
        }
        Due.is("six deeds", x.count(2), 6);
        Due.is("all on the shelf", x.count(5), 63);
        RindDates least = Due.farm("a0000000060 w10 r19");
        Due.is("a rind of 0", least.make(0), 0);
        Due.is("a runny one of 0", least.make(1), 0);
    }

    private static void makeBad() {
        RindDates x = Due.farm("a1234567860 w10 w10");
        int[] bad = {-1, 2, 5, 6, NONE, LEAST, GREATEST};
        for (int i : bad) {
            Due.leaves("make(" + i + ")", x, () -> x.make(i), BAD);
        }
        RindDates none = new RindDates();
        Due.leaves("without wheels", none, () -> none.make(0), BAD);
    }

    private static void makeState() {
        RindDates x = Due.farm("a1234567860 w10 w90");
        x.make(0);
        x.make(1);
        Due.leaves("on the shelf", x, () -> x.make(1), STATE);
        x.sell(1);
        Due.leaves("sold", x, () -> x.make(1), STATE);
        x.day();
        Due.leaves("gone", x, () -> x.make(0), STATE);
    }

    private static void makeFull() {
        RindDates x = filled(Due.farm("a1234567860 w14 w15"), 39);
        Due.is("the 40th deed", x.make(0), 4);
        Due.leaves("the 41st", x, () -> x.make(1), FULL);
    }

    private static void makeOrder() {
        RindDates x = Due.farm("a1234567860 w14");
        x.make(0);
        filled(x, 40);
        Due.leaves("STATE ahead of FULL", x, () -> x.make(0), STATE);
        Due.leaves("BAD ahead of FULL", x, () -> x.make(1), BAD);
    }

    private static void sold() {
        Due.sentence("19 sell: a WHEEL is sold: its RIND", DeedsEdgesTest::sellSome);
        Due.sentence("19 sell: BAD", DeedsEdgesTest::sellBad);
        Due.sentence("19 sell: STATE: it is not on the SHELF", DeedsEdgesTest::sellState);
        Due.sentence("19 sell: FULL", DeedsEdgesTest::sellFull);
        Due.sentence("19 sell: (FULL last.)", DeedsEdgesTest::sellOrder);
    }

    private static void sellSome() {
        RindDates x = Due.farm("a9999999901 w29 o19 l99");
        x.make(0);
        x.make(2);
        x.day();
        Due.is("on its last day, as it was made", x.sell(0), 54);
        Due.is("the last wheel", x.sell(2), 25);
        Due.is("deeds", x.count(2), 5);
        Due.is("the shelf", x.count(5), 0);
        RindDates least = Due.farm("a0000000060 w10");
        least.make(0);
        Due.is("a rind of 0", least.sell(0), 0);
    }

    private static void sellBad() {
        RindDates x = Due.farm("a1234567860 w10 w10");
        int[] bad = {-1, 2, 5, 6, NONE, LEAST, GREATEST};
        for (int i : bad) {
            Due.leaves("sell(" + i + ")", x, () -> x.sell(i), BAD);
        }
        RindDates none = new RindDates();
        Due.leaves("without wheels", none, () -> none.sell(0), BAD);
    }

    private static void sellState() {
        RindDates x = Due.farm("a1234567860 w10 w90");
        Due.leaves("not made", x, () -> x.sell(0), STATE);
        x.make(0);
        x.make(1);
        x.sell(1);
        Due.leaves("sold", x, () -> x.sell(1), STATE);
        x.day();
        Due.leaves("gone", x, () -> x.sell(0), STATE);
        x.undo(1);
        Due.leaves("not made, as it is undone", x, () -> x.sell(1), STATE);
        Due.is("made on that day", x.sell(0), 9);
    }

    private static void sellFull() {
        RindDates x = Due.farm("a0000000060 w94 w95");
        x.make(0);
        x.make(1);
        for (int k = 0; k < 37; k++) {
            x.say(0);
        }
        Due.is("the 40th deed", x.sell(1), 5);
        Due.leaves("the 41st", x, () -> x.sell(0), FULL);
    }

    private static void sellOrder() {
        RindDates x = Due.farm("a1234567860 w14 w14");
        x.make(0);
        filled(x, 40);
        Due.leaves("gone: STATE ahead of FULL", x, () -> x.sell(0), STATE);
        Due.leaves("not made: STATE ahead of FULL", x, () -> x.sell(1), STATE);
        Due.leaves("BAD ahead of FULL", x, () -> x.sell(2), BAD);
    }

    private static void undone() {
        Due.sentence("20 undo: DEEDS from number n on are undone: how many", DeedsEdgesTest::undoSome);
        Due.sentence("20 undo: each DEED is undone", DeedsEdgesTest::undoEach);
        Due.sentence("20 undo: n 0", DeedsEdgesTest::undoAll);
        Due.sentence("20 undo: n to how many there are: then 0", DeedsEdgesTest::undoNone);
        Due.sentence("20 undo: BAD", DeedsEdgesTest::undoBad);
    }

    /** A day, a wheel made, a saying, another made, the first sold, a day, and so on. */
    private static void deed(RindDates x, int number) {
        switch (number % 6) {
            case 0: x.day(); break;
            case 1: x.make(number / 6); break;
            case 2: x.say(number % 4); break;
            case 3: x.say(3); break;
            case 4: x.sell(number / 6); break;
            default: x.say(0); break;
        }
    }

    private static void undoSome() {
        RindDates x = Due.farm("a1234567830 w94 o95 y96 s97 r98 l99");
        long[] then = new long[37];
        for (int k = 0; k < 36; k++) {
            then[k] = x.digest();
            deed(x, k);
        }
        then[36] = x.digest();
        Due.is("all of these are deeds", x.count(2), 36);
        int[] numbers = {36, 35, 34, 31, 30, 24, 17, 16, 5, 4, 3, 2, 1, 0};
        int had = 36;
        for (int n : numbers) {
            Due.is("undo(" + n + ")", x.undo(n), had - n);
            Due.is("as it was", x.digest(), then[n]);
            had = n;
        }
    }

    private static void undoEach() {
        RindDates x = Due.farm("a1234567830 w94");
        x.day();
        x.undo(0);
        Due.is("a day: the day", x.count(1), 0);
        Due.is("a day: anger", x.count(3), 36);
        x.say(0);
        x.undo(0);
        Due.is("a saying: anger", x.count(3), 36);
        x.make(0);
        x.undo(0);
        Due.tells("a wheel made: its day", x, x.wheel(0, 3), NONE);
        Due.tells("a wheel made: its rind", x, x.wheel(0, 4), NONE);
        x.make(0);
        x.sell(0);
        x.undo(1);
        Due.tells("a wheel sold: it is on the shelf", x, x.wheel(0, 5), 1);
        Due.is("it can be sold", x.sell(0) >= 0 ? 1 : 0, 1);
    }

    private static void undoAll() {
        RindDates x = Due.farm("a1234567830 w94");
        long first = x.digest();
        for (int k = 0; k < 40; k++) {
            deed(x, k % 4 == 1 && k > 1 ? 2 : k % 4);
        }
        Due.is("40 deeds", x.count(2), 40);
        Due.is("undo(0)", x.undo(0), 40);
        Due.is("as at first", x.digest(), first);
        Due.is("undo(0) of none", x.undo(0), 0);
        filled(x, 40);
        Due.leaves("no room for more than 40", x, x::day, FULL);
    }

    private static void undoNone() {
        RindDates x = Due.farm("a1234567830 w94");
        Due.is("undo(0) of none", x.undo(0), 0);
        filled(x, 40);
        long before = x.digest();
        Due.is("undo(40) of 40", x.undo(40), 0);
        Due.is("nothing changes", x.digest(), before);
        RindDates none = new RindDates();
        Due.is("undo(0) without wheels", none.undo(0), 0);
    }

    private static void undoBad() {
        RindDates x = filled(Due.farm("a1234567830 w94"), 3);
        int[] bad = {-1, 4, 40, LEAST, GREATEST};
        for (int n : bad) {
            Due.leaves("undo(" + n + ") of 3", x, () -> x.undo(n), BAD);
        }
        x.undo(1);
        Due.leaves("undo(2) of 1: what is undone is no deed", x, () -> x.undo(2), BAD);
        filled(x, 40);
        Due.leaves("undo(41) of 40", x, () -> x.undo(41), BAD);
        RindDates none = new RindDates();
        Due.leaves("undo(1) without wheels", none, () -> none.undo(1), BAD);
        Due.leaves("undo(-1) without wheels", none, () -> none.undo(-1), BAD);
    }

    private static void kept() {
        Due.sentence("21 keep: the FARM (as it is, DEEDS) is kept in a place (0 .. 2): how many DEEDS", DeedsEdgesTest::keepSome);
        Due.sentence("21 keep: BAD", DeedsEdgesTest::keepBad);
        Due.sentence("21 keep: STATE: no WHEELS", DeedsEdgesTest::keepState);
        Due.sentence("22 on: the FARM is as it was kept: how many DEEDS", DeedsEdgesTest::onSome);
        Due.sentence("22 on: what is kept stays kept", DeedsEdgesTest::onAgain);
        Due.sentence("22 on: BAD", DeedsEdgesTest::onBad);
        Due.sentence("22 on: NOTHING", DeedsEdgesTest::onNothing);
    }

    private static void keepSome() {
        RindDates x = Due.farm("a1234567830 w94");
        Due.is("of none", x.keep(0), 0);
        x.day();
        Due.is("of one", x.keep(1), 1);
        filled(x, 40);
        Due.is("of 40", x.keep(2), 40);
        Due.is("three are kept", x.count(10), 3);
        x.undo(2);
        Due.is("anew, of two", x.keep(0), 2);
        Due.is("three still", x.count(10), 3);
        Due.is("each is its own: 0", x.on(0), 2);
        Due.is("each is its own: 1", x.on(1), 1);
        Due.is("each is its own: 2", x.on(2), 40);
    }

    private static void keepBad() {
        RindDates x = Due.farm("a1234567830 w94");
        int[] bad = {-1, 3, NONE, LEAST, GREATEST};
        for (int k : bad) {
            Due.leaves("keep(" + k + ")", x, () -> x.keep(k), BAD);
        }
        RindDates none = new RindDates();
        Due.leaves("BAD ahead of STATE", none, () -> none.keep(3), BAD);
    }

    private static void keepState() {
        RindDates none = new RindDates();
        for (int k = 0; k <= 2; k++) {
            int place = k;
            Due.leaves("keep(" + k + ")", none, () -> none.keep(place), STATE);
        }
    }

    private static void onSome() {
        RindDates x = Due.farm("a1234567830 w94 o95");
        long first = x.digest();
        x.make(0);
        x.say(1);
        x.sell(0);
        filled(x, 39);
        x.make(1);
        x.keep(0);
        long then = x.digest();
        x.undo(0);
        Due.is("undone", x.count(2), 0);
        Due.is("on(0), of 40", x.on(0), 40);
        Due.is("as it was kept", x.digest(), then);
        Due.leaves("it is full", x, x::day, FULL);
        Due.is("its deeds can be undone", x.undo(0), 40);
        Due.is("to the first day, with one kept", x.digest() == first ? 0 : x.count(10), 1);
        Due.is("anger of the first day", x.count(3), 36);
        Due.is("keep(1), of none", x.keep(1), 0);
        x.day();
        Due.is("on(1), of none", x.on(1), 0);
        Due.is("day 0", x.count(1), 0);
    }

    private static void onAgain() {
        RindDates x = Due.farm("a1234567830 w94");
        x.say(0);
        x.make(0);
        x.keep(2);
        long then = x.digest();
        for (int k = 0; k < 3; k++) {
            x.undo(1);
            x.say(2);
            x.say(3);
            x.make(0);
            Due.is("on(2)", x.on(2), 2);
            Due.is("as it was kept", x.digest(), then);
        }
        Due.is("it is there", x.count(10), 1);
    }

    private static void onBad() {
        RindDates x = Due.farm("a1234567830 w94");
        int[] bad = {-1, 3, NONE, LEAST, GREATEST};
        for (int k : bad) {
            Due.leaves("on(" + k + ")", x, () -> x.on(k), BAD);
        }
    }

    private static void onNothing() {
        RindDates x = Due.farm("a1234567830 w94");
        x.keep(1);
        x.day();
        Due.leavesBy("on(0)", x, () -> x.on(0), NOTHING);
        Due.leavesBy("on(2)", x, () -> x.on(2), NOTHING);
        x.farm(0);
        Due.leavesBy("on(1), behind a farm anew", x, () -> x.on(1), NOTHING);
        RindDates none = new RindDates();
        Due.leavesBy("on(0) without wheels", none, () -> none.on(0), NOTHING);
    }
}
