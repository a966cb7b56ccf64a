/** Promises 8 to 15: text, put, fault, farm, wheel, mark, holds, anger. */
public final class FarmTest {
    private static final int BAD = RindDates.BAD, STATE = RindDates.STATE, NONE = RindDates.NONE;
    private static final int NOTHING = 1, BEYOND = 2, UNLIKE = 3, SIZE = 5;

    public static void main(String[] args) {
        promise8();
        promise9();
        promise10();
        promise11();
        promise12();
        promise12Silent();
        promise13();
        promise14();
        promise15();
        Due.close("FarmTest");
    }

    private static void promise8() {
        RindDates x = new RindDates();
        Due.is("text(0, 60)", x.text(0, 60), 60);
        Due.is("blanks", x.put(0, 59, 7), 1032);
        Due.finds("put(0, 60, 7)", x, x.put(0, 60, 7), BEYOND);
        Due.is("text(0, 61)", x.text(0, 61), BAD);
        Due.is("text(4, 1)", x.text(4, 1), BAD);
        Due.is("text(-1, -1)", x.text(-1, -1), BAD);
        Due.finds("text(0, -1)", x, x.text(0, -1), SIZE);
        Due.is("refused leaves it", x.put(0, 59, 7), 1007);
        Due.is("text(0, 60) anew", x.text(0, 60), 60);
        Due.is("blanks anew", x.put(0, 59, 7), 1032);
        Due.is("text(3, 0)", x.text(3, 0), 0);
        Due.is("two texts", x.count(9), 2);
    }

    private static void promise9() {
        RindDates x = new RindDates();
        x.text(1, 2);
        Due.is("put 127", x.put(1, 0, 127), 1032);
        Due.is("put 128", x.put(1, 0, 128), 1127);
        Due.is("put -129", x.put(1, 0, -129), 872);
        Due.is("put 256", x.put(1, 0, 256), 1127);
        Due.is("put -1", x.put(1, 0, -1), 1000);
        Due.is("put 0", x.put(1, 0, 0), 999);
        Due.is("put(4, 0, 0)", x.put(4, 0, 0), BAD);
        Due.is("put(-1, 9, 0)", x.put(-1, 9, 0), BAD);
        Due.finds("put(0, 9, 0)", x, x.put(0, 9, 0), NOTHING);
        Due.finds("put(1, 2, 0)", x, x.put(1, 2, 0), BEYOND);
        Due.finds("put(1, -1, 0)", x, x.put(1, -1, 0), BEYOND);
        Due.is("the other place stays", x.put(1, 1, 0), 1032);
    }

    private static void faulty(String signs, int place) {
        RindDates x = new RindDates();
        Due.text(x, 2, signs);
        Due.is("fault of '" + signs + "'", x.fault(2), place);
        Due.is("farm of '" + signs + "'", x.farm(2), STATE);
        Due.is("no wheels by '" + signs + "'", x.count(0), 0);
    }

    private static void promise10() {
        faulty("", 0);
        faulty("   ", 3);
        faulty("w34", 0);
        faulty("  b", 2);
        faulty("a", 1);
        faulty("a1234567", 8);
        faulty("a1234x678", 5);
        faulty("a1234 56782", 5);
        faulty("a 1234567860", 1);
        faulty("a12345678", 9);
        faulty("a123456786", 10);
        faulty("a1234567800w34", 9);
        faulty("a1234567861w34", 9);
        faulty("a1234567899w34", 9);
        faulty("a12345678x0w34", 9);
        faulty("a123456786xw34", 10);
        faulty("a1234567860", 11);
        faulty("a1234567860  ", 13);
        faulty("a1234567860q", 11);
        faulty("a1234567860w", 12);
        faulty("a1234567860w0", 12);
        faulty("a1234567860w03", 12);
        faulty("a1234567860w 34", 12);
        faulty("a1234567860w3", 13);
        faulty("a1234567860w3x", 13);
        faulty("a1234567860w3 4", 13);
        faulty("a1234567860 w34 a1234567860", 16);
        faulty("a1234567860W34", 11);
        faulty("a1234567860w10w10w10w10w10w10 w10", 30);
        faulty("a1234567860w10w10w10w10w10w10x", 29);
        RindDates x = new RindDates();
        String[] well = {"a0000000001w10", " a9999999960   l99", "a1234567860w34o52y71s95r43l80", "a1234567860 w34 ", "a1234567809r10"};
        for (String signs : well) {
            Due.text(x, 0, signs);
            Due.is("fault of '" + signs + "'", x.fault(0), NONE);
        }
        Due.is("fault makes no farm", x.count(0), 0);
        Due.is("fault(4)", x.fault(4), BAD);
        Due.is("fault(-1)", x.fault(-1), BAD);
        Due.finds("fault(1)", x, x.fault(1), NOTHING);
        x.put(0, 13, 256 + '7');
        Due.is("bytes are cut", x.fault(0), NONE);
        x.put(0, 0, 'a' - 256);
        Due.is("cut to an a", x.fault(0), NONE);
        x.put(0, 0, -'a');
        Due.is("no a below 0", x.fault(0), 0);
    }

    private static void promise11() {
        RindDates x = new RindDates();
        Due.is("farm(4)", x.farm(4), BAD);
        Due.is("farm(-1)", x.farm(-1), BAD);
        Due.finds("farm(0)", x, x.farm(0), NOTHING);
        Due.text(x, 0, "a1234567820 w34 o52");
        Due.is("farm(0) is made", x.farm(0), 2);
        Due.is("keep", x.keep(0), 0);
        x.day();
        x.make(0);
        x.say(1);
        x.make(1);
        x.sell(1);
        Due.text(x, 1, "a000000000x");
        long before = x.digest();
        Due.is("farm by a fault", x.farm(1), STATE);
        Due.is("refused leaves the farm", x.digest(), before);
        Due.text(x, 1, "a1000000020 y34 l52 r29");
        Due.is("farm anew", x.farm(1), 3);
        Due.is("day 0", x.count(1), 0);
        Due.is("no deeds", x.count(2), 0);
        Due.is("anger", x.count(3), 1);
        Due.is("nothing on the shelf", x.count(5), 0);
        Due.is("kept farms go", x.count(10), 0);
        Due.finds("none kept", x, x.on(0), NOTHING);
        Due.tells("not made", x, x.wheel(0, 3), NONE);
        Due.tells("its kind", x, x.wheel(0, 0), 2);
        x.text(1, 0);
        Due.is("the farm stays without its text", x.count(0), 3);
        x.day();
        Due.is("undone to the farm's first day", x.undo(0), 1);
        Due.is("anger again", x.count(3), 1);
    }

    private static void promise12() {
        RindDates x = Due.farm("a3140520220 w34 o52 y71 s95 r43 l80");
        int[] kinds = {0, 1, 2, 3, 4, 5};
        int[] keeps = {3, 5, 7, 9, 4, 8};
        int[] salts = {4, 2, 1, 5, 3, 0};
        int[] rinds = {8, 8, 2, 11, 0, 11};
        for (int i = 0; i < 6; i++) {
            Due.tells("kind of " + i, x, x.wheel(i, 0), kinds[i]);
            Due.tells("keeps of " + i, x, x.wheel(i, 1), keeps[i]);
            Due.tells("salt of " + i, x, x.wheel(i, 2), salts[i]);
            Due.tells("not made " + i, x, x.wheel(i, 3), NONE);
            Due.tells("no rind " + i, x, x.wheel(i, 4), NONE);
            Due.tells("not on the shelf " + i, x, x.wheel(i, 5), 0);
            Due.tells("rind it would have " + i, x, x.wheel(i, 6), rinds[i]);
        }
        x.day();
        x.make(0);
        Due.tells("made on day 1", x, x.wheel(0, 3), 1);
        Due.tells("rind", x, x.wheel(0, 4), 6);
        Due.tells("on the shelf", x, x.wheel(0, 5), 1);
        x.day();
        x.day();
        Due.tells("still there on day 3", x, x.wheel(0, 5), 1);
        x.day();
        Due.tells("gone on day 4", x, x.wheel(0, 5), 0);
        Due.tells("its rind stays", x, x.wheel(0, 4), 6);
        Due.tells("the rind now", x, x.wheel(0, 6), 4);
        Due.is("wheel(6, 0)", x.wheel(6, 0), BAD);
        Due.is("wheel(-1, 0)", x.wheel(-1, 0), BAD);
        Due.is("wheel(0, 7)", x.wheel(0, 7), BAD);
        Due.is("wheel(0, -1)", x.wheel(0, -1), BAD);
        Due.is("a refusal leaves asked()", x.asked(), 4);
        Due.is("without wheels", new RindDates().wheel(0, 0), BAD);
    }

    /** By anger 21: twice salt and 5, each by its kind. */
    private static void promise12Silent() {
        String wheels = " w34 o52 y71 s95 r43 l80";
        int[] silent = {18, 16, 6, 20, 8, 17};
        int[] speaking = {9, 9, 3, 12, 0, 12};
        RindDates at = Due.farm("a9930000021" + wheels);
        RindDates above = Due.farm("a9930000022" + wheels);
        for (int i = 0; i < 6; i++) {
            Due.tells("silent at the limit " + i, at, at.wheel(i, 6), silent[i]);
            Due.tells("speaking below the limit " + i, above, above.wheel(i, 6), speaking[i]);
        }
    }

    private static void promise13() {
        RindDates x = Due.farm("a9930100021 w34 o52 y71 s95 r43 l80");
        Due.is("an old one is thicker", x.mark(1, 1), 102);
        Due.is("a show is thinner by its bound", x.mark(3, 1), 100 + 20 - 20);
        Due.is("a long one as old", x.mark(5, 1), 100 + 17 - 10);
        Due.is("a young one is thinner", x.mark(2, 2), 12 - 6);
        Due.is("a runny one is thinner", x.mark(4, 2), 16 - 8);
        Due.is("a show against an old one", x.mark(3, 3), 100 + 22 - 20);
        Due.is("a long one against an old one", x.mark(5, 3), 100 + 12 - 17);
        Due.is("silent: it would not run", x.mark(4, 4), 0);
        Due.is("matters that both hold", x.mark(5, 5), 1);
        int[] kinds = {0, 1, 2, 3, 4, 5};
        int[] are = {0b000001, 0b000011, 0b000101, 0b001011, 0b010101, 0b101011};
        for (int i = 0; i < 6; i++) {
            for (int kind = 1; kind <= 5; kind++) {
                boolean is = (are[kinds[i]] >> kind & 1) == 1;
                Due.is("wheel " + i + " is of kind " + kind, x.mark(i, kind) == RindDates.FINDING ? 0 : 1, is ? 1 : 0);
            }
        }
        Due.finds("mark(0, 1)", x, x.mark(0, 1), UNLIKE);
        Due.is("mark(0, 0)", x.mark(0, 0), BAD);
        Due.is("mark(0, 6)", x.mark(0, 6), BAD);
        Due.is("mark(6, 1)", x.mark(6, 1), BAD);
        Due.is("mark(-1, 1)", x.mark(-1, 1), BAD);
        x.day();
        Due.is("speaking: it would run", x.mark(4, 4), 1);
        Due.is("no matter that both hold", x.mark(5, 5), 0);
        RindDates younger = Due.farm("a1020923421 l80");
        Due.is("one holds nothing of it", younger.mark(0, 5), 2);
        RindDates thin = Due.farm("a9999999901 s99 r10");
        Due.is("a show is thinner than a wheel", thin.mark(0, 1), 100 + 20 - 54);
        Due.is("a show is thinner than an old one", thin.mark(0, 3), 100 + 56 - 20);
        RindDates none = Due.farm("a0000000001 r10");
        Due.is("speaking, no anger: it would run", none.mark(0, 4), 1);
        RindDates salted = Due.farm("a1000000001 r10");
        Due.is("silent, but no rind: it would run", salted.mark(0, 4), 1);
    }

    private static void promise14() {
        RindDates x = Due.farm("a1234567860 w10");
        for (int m = 0; m < 4; m++) {
            Due.is("the elder holds of " + m, x.holds(0, m), 1 + m);
            Due.is("the younger holds of " + m, x.holds(1, m), 5 + m);
        }
        Due.is("holds(2, 0)", x.holds(2, 0), BAD);
        Due.is("holds(-1, 0)", x.holds(-1, 0), BAD);
        Due.is("holds(0, 4)", x.holds(0, 4), BAD);
        Due.is("holds(0, -1)", x.holds(0, -1), BAD);
        Due.is("without a farm", new RindDates().holds(1, 3), 0);
    }

    private static void promise15() {
        RindDates x = Due.farm("a1234567824 w10");
        int[] angers = {36, 24, 13, 4, 0, 0, 0};
        for (int n = 0; n < angers.length; n++) {
            Due.is("anger(" + n + ")", x.anger(n), angers[n]);
            Due.is("silent by anger(" + n + ")", x.asked(), n < 2 ? 1 : 0);
        }
        Due.is("anger(20)", x.anger(20), 0);
        Due.is("no day passed", x.count(3), 36);
        Due.is("anger(21)", x.anger(21), BAD);
        Due.is("anger(-1)", x.anger(-1), BAD);
        RindDates none = new RindDates();
        Due.is("without wheels", none.anger(0), STATE);
        Due.is("BAD ahead of STATE", none.anger(21), BAD);
    }
}
