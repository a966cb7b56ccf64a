/** Promises 23 to 27: peace, plan, through, about, sure. */
public final class PlansTest {
    private static final int BAD = RindDates.BAD, STATE = RindDates.STATE, NONE = RindDates.NONE;
    private static final int NOTHING = 1, UNLIKE = 3, NOUGHT = 4, SIZE = 5;

    public static void main(String[] args) {
        promise23();
        promise24();
        promise24Firsts();
        promise25();
        promise26();
        promise27();
        refusalsOfAngers();
        Due.close("PlansTest");
    }

    private static void promise23() {
        RindDates x = Due.farm("a1234567824 w10");
        Due.is("peace()", x.peace(), 2);
        Due.is("anger then", x.asked(), 13);
        Due.is("nothing passed", x.count(1), 0);
        x.day();
        x.day();
        Due.is("peace now", x.peace(), 0);
        Due.is("anger now", x.asked(), 13);
        RindDates last = Due.farm("a0000000001 w10");
        for (int k = 0; k < 4; k++) {
            last.say(3);
        }
        Due.is("the longest", last.peace(), 12);
        Due.is("no anger then", last.asked(), 0);
        Due.is("without wheels", new RindDates().peace(), STATE);
    }

    private static void promise24() {
        RindDates x = Due.farm("a0000000060 w10 r10");
        Due.is("0 days", x.plan(0, 0, 0, 1), 0);
        Due.finds("a row of none", x, x.at(1, 0), 2);
        Due.row(x, 2, 7, 8);
        Due.is("NONE", x.plan(0, 0, 1, 2), NONE);
        Due.rowIs("NONE leaves the row", x, 2, 7, 8);
        Due.is("NONE leaves one missing", x.plan(0, 2, 60, 3), NONE);
        Due.is("still missing", x.tear(3), RindDates.FINDING);
        // A saying and its day leave 3, a second one of the same matter 6, one of another 4.
        Due.is("no saying is wanted", x.plan(0, 3, 0, 2), 0);
        Due.rowIs("no saying", x, 2, NONE, NONE, NONE);
        Due.is("1 of rind by anger 4", x.plan(0, 2, 1, 2), 2);
        Due.rowIs("twice the first matter", x, 2, 0, 0);
        Due.is("a runny one never", x.plan(1, 5, 1, 2), NONE);
        Due.is("no day passed", x.count(1), 0);
        Due.is("no deed", x.count(2), 0);
        Due.is("plan(2, ..)", x.plan(2, 0, 0, 0), BAD);
        Due.is("plan(-1, ..)", x.plan(-1, 0, 0, 0), BAD);
        Due.is("6 days", x.plan(0, 6, 0, 0), BAD);
        Due.is("-1 days", x.plan(0, -1, 0, 0), BAD);
        Due.is("rind 61", x.plan(0, 0, 61, 0), BAD);
        Due.is("rind -1", x.plan(0, 0, -1, 0), BAD);
        Due.is("row 6", x.plan(0, 0, 0, 6), BAD);
        Due.is("row -1", x.plan(0, 0, 0, -1), BAD);
        Due.is("without wheels", new RindDates().plan(0, 0, 0, 0), BAD);
    }

    private static void promise24Firsts() {
        RindDates x = Due.farm("a0000000003 r10");
        Due.is("silent behind 1 day", x.plan(0, 1, 0, 0), 0);
        Due.is("and of rind 1", x.plan(0, 1, 1, 0), NONE);
        Due.is("of rind 1 behind 2", x.plan(0, 2, 1, 0), 2);
        Due.rowIs("both of the first matter", x, 0, 0, 0);
        Due.is("of rind 1 behind 3", x.plan(0, 3, 1, 0), 2);
        Due.rowIs("as late as can be", x, 0, NONE, 0, 0);
        x.say(0);
        x.say(0);
        x.say(0);
        x.say(0);
        x.make(0);
        Due.is("held at most, another matter is said", x.plan(0, 1, 6, 0), 1);
        Due.rowIs("another matter", x, 0, 1);
        x.undo(0);
        Due.is("as it was at first", x.plan(0, 2, 1, 0), 2);
        x.say(3);
        x.say(3);
        Due.is("as it is now", x.plan(0, 2, 0, 0), 0);
        Due.is("without a saying", x.plan(0, 1, 1, 0), 0);
        Due.rowIs("nothing is said", x, 0, NONE);
    }

    private static void promise25() {
        RindDates x = Due.farm("a6204351218 w10");
        Due.row(x, 3, 3, 3, NONE, 1);
        int silent = 0;
        RindDates y = Due.farm("a6204351218 w10");
        int[] plan = {3, 3, NONE, 1};
        for (int d = 0; d < plan.length; d++) {
            silent += y.count(4);
            if (plan[d] != NONE) {
                y.say(plan[d]);
            }
            y.day();
        }
        Due.is("through(3)", x.through(3), y.count(3));
        Due.is("silent mornings", x.asked(), silent);
        Due.is("more than none, not all", silent > 0 && silent < 4 ? 1 : 0, 1);
        Due.is("no day passed", x.count(1), 0);
        x.row(4, 0);
        Due.is("through none", x.through(4), 23);
        Due.is("no mornings", x.asked(), 0);
        x.row(4, 20);
        Due.is("20 days of the hedge", x.through(4), 12 + 12 - 3);
        Due.is("silent all of these", x.asked(), 20);
        x.row(4, 21);
        Due.finds("21 days", x, x.through(4), SIZE);
        x.lay(4, 0, 5);
        Due.finds("SIZE ahead of UNLIKE", x, x.through(4), SIZE);
        int[] unlike = {4, -1, -8, -10};
        for (int v : unlike) {
            Due.row(x, 4, 0, v);
            Due.finds("a saying of " + v, x, x.through(4), UNLIKE);
            Due.row(x, 4, v, 0);
            Due.finds("a first saying of " + v, x, x.through(4), UNLIKE);
        }
        Due.finds("a missing row", x, x.through(5), NOTHING);
        Due.is("through(6)", x.through(6), BAD);
        Due.is("through(-1)", x.through(-1), BAD);
        RindDates none = new RindDates();
        Due.is("without wheels", none.through(0), STATE);
        Due.is("BAD ahead of STATE", none.through(6), BAD);
    }

    private static void promise26() {
        RindDates x = Due.farm("a0000000060 w10");
        Due.row(x, 0, 3);
        Due.tells("a saying", x, x.about(0), 0);
        Due.is("about any matter", x.upper(), 4);
        Due.is("of one", x.lower(), 1);
        Due.row(x, 0, 0, 3);
        Due.tells("nothing, then a saying", x, x.about(0), NONE);
        Due.is("about any matter", x.upper(), 4);
        Due.row(x, 0, 3, 6);
        Due.tells("the same one twice", x, x.about(0), 0);
        Due.is("any matter", x.upper(), 4);
        Due.row(x, 0, 3, 4);
        Due.tells("another one then", x, x.about(0), 0);
        Due.is("any matters", x.upper(), 12);
        Due.row(x, 0, 3, 1);
        Due.tells("nothing then", x, x.about(0), 0);
        Due.is("any matter", x.upper(), 4);
        Due.row(x, 0, 100, 100, 100, 100);
        Due.tells("no plan", x, x.about(0), NONE);
        Due.is("none", x.upper(), 0);
        Due.is("by 1", x.lower(), 1);
        x.row(0, 4);
        Due.tells("nothing at all", x, x.about(0), NONE);
        Due.is("the one plan", x.upper(), 1);
        RindDates y = Due.farm("a9000000060 w10");
        Due.row(y, 0, 12);
        // The elder's 9 would be 12, less 1; the younger's 3, less 2.
        Due.tells("the hedge", y, y.about(0), 0);
        Due.is("it alone", y.upper(), 1);
        Due.row(y, 0, 11);
        Due.tells("any other", y, y.about(0), 1);
        Due.is("three", y.upper(), 3);
    }

    private static void promise27() {
        RindDates x = Due.farm("a9000000060 w10");
        Due.row(x, 0, 12);
        Due.is("the hedge in all", x.sure(0), 0b0001);
        Due.is("the others in none", x.asked(), 0b1110);
        Due.row(x, 0, 11);
        Due.is("none in all", x.sure(0), 0);
        Due.is("the hedge in none", x.asked(), 0b0001);
        Due.row(x, 0, 8);
        Due.is("nothing is said", x.sure(0), 0);
        Due.is("all in none", x.asked(), 0b1111);
        Due.row(x, 0, 100);
        Due.finds("no plan", x, x.sure(0), NOUGHT);
        Due.is("refused leaves asked()", x.asked(), 100 - 100);
        Due.is("upper() is about's alone", x.upper(), 0);
        Due.row(x, 0, 12, 13);
        Due.is("the hedge, and another", x.sure(0), 0b0001);
        Due.is("none is in none", x.asked(), 0);
    }

    private static void refusalsOfAngers() {
        RindDates x = Due.farm("a0000000060 w10");
        RindDates none = new RindDates();
        x.row(1, 0);
        x.row(2, 5);
        x.lay(2, 0, -1);
        Due.row(x, 3, 101);
        Due.row(x, 4, 0, -1);
        long before = x.digest();
        int[] rows = {1, 2, 3, 4, 5};
        int[] findings = {SIZE, SIZE, UNLIKE, UNLIKE, NOTHING};
        for (int k = 0; k < rows.length; k++) {
            Due.finds("about(" + rows[k] + ")", x, x.about(rows[k]), findings[k]);
            Due.finds("sure(" + rows[k] + ")", x, x.sure(rows[k]), findings[k]);
        }
        Due.is("refused changes nothing", x.digest(), before);
        int[] bad = {6, -1};
        for (int r : bad) {
            Due.is("about(" + r + ")", x.about(r), BAD);
            Due.is("sure(" + r + ")", x.sure(r), BAD);
            Due.is("about: BAD ahead of STATE", none.about(r), BAD);
            Due.is("sure: BAD ahead of STATE", none.sure(r), BAD);
        }
        Due.is("about without wheels", none.about(0), STATE);
        Due.is("sure without wheels", none.sure(0), STATE);
    }
}
