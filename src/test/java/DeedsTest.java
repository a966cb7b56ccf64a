/** Promises 16 to 22: day, say, make, sell, undo, keep, on. */
public final class DeedsTest {
    private static final int BAD = RindDates.BAD, FULL = RindDates.FULL, STATE = RindDates.STATE, NONE = RindDates.NONE;
    private static final int NOTHING = 1;

    public static void main(String[] args) {
        promise16();
        promise17();
        promise18();
        promise19();
        promise20();
        promise21();
        promise22();
        Due.close("DeedsTest");
    }

    private static void fill(RindDates x, int deeds) {
        while (x.count(2) < deeds) {
            x.day();
        }
    }

    private static void promise16() {
        RindDates x = Due.farm("a1234567824 w10");
        Due.is("day()", x.day(), 24);
        Due.is("the elder 1 less", x.holds(0, 3), 3);
        Due.is("0 at least", x.holds(0, 0), 0);
        Due.is("the younger 2 less", x.holds(1, 3), 6);
        Due.is("day() again", x.day(), 13);
        Due.is("0 still", x.holds(0, 0), 0);
        Due.is("day 2", x.count(1), 2);
        Due.is("2 deeds", x.count(2), 2);
        fill(x, 40);
        Due.is("the 41st deed", x.day(), FULL);
        Due.is("day 40", x.count(1), 40);
        Due.is("without wheels", new RindDates().day(), STATE);
    }

    private static void promise17() {
        RindDates x = Due.farm("a0900070024 w10");
        Due.is("say(0)", x.say(0), 22);
        Due.is("the elder 3 more", x.holds(0, 0), 3);
        Due.is("the younger 3 more", x.holds(1, 0), 3);
        Due.is("say(1)", x.say(1), 28);
        Due.is("12 is reached", x.holds(0, 1), 12);
        Due.is("the younger of it", x.holds(1, 1), 10);
        Due.is("say(1) again", x.say(1), 30);
        Due.is("12 at most", x.holds(0, 1), 12);
        Due.is("12 at most for the younger", x.holds(1, 1), 12);
        Due.is("say(1) once more", x.say(1), 30);
        Due.is("say(3)", x.say(3), 36);
        Due.is("no day passed", x.count(1), 0);
        Due.is("say(4)", x.say(4), BAD);
        Due.is("say(-1)", x.say(-1), BAD);
        fill(x, 40);
        Due.is("the 41st deed", x.say(0), FULL);
        Due.is("BAD ahead of FULL", x.say(4), BAD);
        RindDates none = new RindDates();
        Due.is("without wheels", none.say(3), STATE);
        Due.is("BAD ahead of STATE", none.say(4), BAD);
    }

    private static void promise18() {
        RindDates x = Due.farm("a3140520220 w14 o52 r91");
        Due.is("make(0)", x.make(0), 8);
        Due.is("make(0) again", x.make(0), STATE);
        Due.is("make(2)", x.make(2), 0);
        Due.is("on the shelf", x.count(5), 0b101);
        x.day();
        Due.is("gone", x.count(5), 0b100);
        Due.is("made once", x.make(0), STATE);
        x.sell(2);
        Due.is("sold, made once", x.make(2), STATE);
        Due.is("make(3)", x.make(3), BAD);
        Due.is("make(-1)", x.make(-1), BAD);
        fill(x, 39);
        Due.is("the 40th deed", x.make(1), 4);
        x.undo(39);
        fill(x, 40);
        Due.is("the 41st deed", x.make(1), FULL);
        Due.is("STATE ahead of FULL", x.make(0), STATE);
        Due.is("without wheels", new RindDates().make(0), BAD);
    }

    private static void promise19() {
        RindDates x = Due.farm("a3140520220 w14 o52 r91");
        Due.is("not made", x.sell(0), STATE);
        x.make(1);
        x.say(0);
        Due.is("sell(1)", x.sell(1), 8);
        Due.is("off the shelf", x.count(5), 0);
        Due.is("sold once", x.sell(1), STATE);
        Due.tells("still made", x, x.wheel(1, 3), 0);
        Due.tells("its rind", x, x.wheel(1, 4), 8);
        Due.tells("sold", x, x.wheel(1, 5), 0);
        x.make(0);
        x.make(2);
        x.day();
        Due.is("gone", x.sell(0), STATE);
        Due.is("sell(3)", x.sell(3), BAD);
        Due.is("sell(-1)", x.sell(-1), BAD);
        x.undo(5);
        while (x.count(2) < 39) {
            x.say(0);
        }
        Due.is("on the shelf", x.count(5) >> 2, 1);
        Due.is("the 40th deed", x.sell(2), 6);
        x.undo(39);
        x.say(0);
        Due.is("the 41st deed", x.sell(2), FULL);
        Due.is("STATE ahead of FULL", x.sell(1), STATE);
        Due.is("without wheels", new RindDates().sell(0), BAD);
    }

    private static void promise20() {
        RindDates x = Due.farm("a3140520220 w94 o52 r91");
        x.day();
        x.make(0);
        x.say(1);
        long then = x.digest();
        x.make(1);
        x.sell(0);
        x.day();
        x.sell(1);
        Due.is("undo(8)", x.undo(8), BAD);
        Due.is("undo(-1)", x.undo(-1), BAD);
        Due.is("undo(7)", x.undo(7), 0);
        Due.is("undo(3)", x.undo(3), 4);
        Due.is("as it was", x.digest(), then);
        Due.is("unsold", x.count(5), 0b001);
        Due.is("can be made again", x.make(1), 7);
        Due.is("undo(0)", x.undo(0), 4);
        Due.is("day 0", x.count(1), 0);
        Due.is("anger", x.count(3), 17);
        Due.tells("not made", x, x.wheel(0, 3), NONE);
        Due.tells("no rind", x, x.wheel(0, 4), NONE);
        Due.is("undo(0) of none", x.undo(0), 0);
        Due.is("undo(1) of none", x.undo(1), BAD);
        RindDates none = new RindDates();
        Due.is("without wheels, undo(0)", none.undo(0), 0);
        Due.is("without wheels, undo(1)", none.undo(1), BAD);
    }

    private static void promise21() {
        RindDates x = Due.farm("a3140520220 w94");
        Due.is("keep(0)", x.keep(0), 0);
        x.day();
        x.say(2);
        Due.is("keep(2)", x.keep(2), 2);
        Due.is("two kept", x.count(10), 2);
        Due.is("keep(2) again", x.keep(2), 2);
        Due.is("two kept still", x.count(10), 2);
        Due.is("keep(3)", x.keep(3), BAD);
        Due.is("keep(-1)", x.keep(-1), BAD);
        RindDates none = new RindDates();
        Due.is("without wheels", none.keep(0), STATE);
        Due.is("BAD ahead of STATE", none.keep(3), BAD);
    }

    private static void promise22() {
        RindDates x = Due.farm("a3140520220 w94 o52");
        x.day();
        x.make(0);
        x.say(2);
        x.keep(1);
        long then = x.digest();
        x.sell(0);
        x.make(1);
        x.day();
        Due.is("on(1)", x.on(1), 3);
        Due.is("as it was kept", x.digest(), then);
        x.undo(1);
        x.say(3);
        x.say(3);
        x.say(3);
        Due.is("on(1) again", x.on(1), 3);
        Due.is("what is kept stays", x.digest(), then);
        Due.is("its deeds can be undone", x.undo(1), 2);
        Due.is("not made", x.count(5), 0);
        x.keep(1);
        Due.is("kept anew", x.on(1), 1);
        Due.is("on(3)", x.on(3), BAD);
        Due.is("on(-1)", x.on(-1), BAD);
        Due.finds("on(0)", x, x.on(0), NOTHING);
        RindDates none = new RindDates();
        Due.finds("without wheels", none, none.on(2), NOTHING);
    }
}
