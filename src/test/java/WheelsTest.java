/** Promises 28 to 31: salts, kinds, test, shows. */
public final class WheelsTest {
    private static final int BAD = RindDates.BAD, STATE = RindDates.STATE, NONE = RindDates.NONE;
    private static final int NOTHING = 1, UNLIKE = 3, SIZE = 5;

    public static void main(String[] args) {
        promise28();
        promise29();
        promise30();
        refusalsOfPairs();
        promise31();
        promise31Refusals();
        Due.close("WheelsTest");
    }

    private static void promise28() {
        RindDates x = Due.farm("a0000000020 w34 o52 y71 s95 r43 l80");
        Due.row(x, 0, 17, 8);
        Due.is("a wheel", x.salts(0, 0), 1 << 4);
        Due.is("an old one", x.salts(1, 0), 1 << 2);
        Due.is("a young one", x.salts(2, 0), 0);
        Due.is("a long one", x.salts(5, 0), 0);
        Due.row(x, 0, 19, 5);
        Due.is("a young one of either salt", x.salts(2, 0), 1 << 6 | 1 << 7);
        Due.row(x, 0, 20, 19);
        Due.is("twice is even", x.salts(0, 0), 0);
        Due.row(x, 0, 20, 18);
        Due.is("silent at the limit", x.salts(0, 0), 1 << 4);
        Due.row(x, 0, 0, 0);
        Due.is("a runny one tells nothing", x.salts(4, 0), 1023);
        Due.row(x, 0, 0, 0, 20, 9);
        Due.is("a runny one, by silence", x.salts(4, 0), 1 << 4);
        Due.row(x, 0, 20, 20);
        Due.is("a show by its bound", x.salts(3, 0), 1023 & ~0b1111);
        Due.row(x, 0, 17, 8, 17, 9);
        Due.is("both can't be", x.salts(0, 0), 0);
        x.row(0, 0);
        Due.is("by nothing", x.salts(0, 0), 1023);
        Due.row(x, 0, 100, 99);
        Due.is("the greatest pair", x.salts(0, 0), 0);
    }

    private static void promise29() {
        RindDates x = Due.farm("a0000000020 w34 l50");
        Due.row(x, 0, 17, 8);
        Due.is("a wheel", x.kinds(0, 0), 1 << 0);
        Due.row(x, 0, 17, 10);
        Due.is("old or a show", x.kinds(0, 0), 1 << 1 | 1 << 3);
        Due.row(x, 0, 17, 4);
        Due.is("a young one", x.kinds(0, 0), 1 << 2);
        Due.row(x, 0, 17, 0);
        Due.is("a runny one", x.kinds(0, 0), 1 << 4);
        Due.row(x, 0, 17, 15);
        Due.is("a long one", x.kinds(0, 0), 1 << 5);
        Due.row(x, 0, 40, 14);
        Due.is("young or runny", x.kinds(0, 0), 1 << 2 | 1 << 4);
        Due.row(x, 0, 17, 10, 40, 30);
        Due.is("old", x.kinds(0, 0), 1 << 1);
        Due.row(x, 0, 17, 10, 40, 20);
        Due.is("a show", x.kinds(0, 0), 1 << 3);
        Due.row(x, 0, 40, 25);
        Due.is("a long one by its bound, and salt 0", x.kinds(1, 0), 1 << 5);
        Due.row(x, 0, 40, 25, 0, 11);
        Due.is("a long one by its bound", x.kinds(0, 0), 1 << 5);
        Due.row(x, 0, 3, 0);
        Due.is("by salt 0", x.kinds(1, 0), 1 << 0 | 1 << 2 | 1 << 4);
        x.row(0, 0);
        Due.is("by nothing", x.kinds(0, 0), 63);
    }

    private static void promise30() {
        RindDates x = Due.farm("a0000000020 w34 l50");
        x.row(0, 0);
        Due.is("the first best", x.test(1, 0), 4);
        Due.is("its greatest part", x.asked(), 2);
        Due.is("by salt 4", x.test(0, 0), 0);
        Due.is("its greatest part", x.asked(), 2);
        Due.row(x, 0, 17, 10);
        Due.is("old or a show", x.test(0, 0), 24);
        Due.is("apart", x.asked(), 1);
        Due.row(x, 0, 17, 4);
        Due.is("one alone", x.test(0, 0), 0);
        Due.is("apart", x.asked(), 1);
        Due.row(x, 0, 17, 8);
        Due.is("a wheel alone", x.test(0, 0), 0);
        Due.is("apart", x.asked(), 1);
        Due.row(x, 0, 17, 7);
        Due.is("no kind", x.test(0, 0), NONE);
        Due.is("NONE leaves asked()", x.asked(), 0);
        Due.row(x, 0, 100, 0);
        Due.is("anger to 100", x.test(1, 0), NONE);
        RindDates never = Due.farm("a0000000001 w10");
        Due.row(never, 0, 4, 1);
        Due.is("young or runny, never apart but by anger 0, where both are 0", never.test(0, 0), 0);
        Due.is("both alike", never.asked(), 2);
    }

    private static void refusalsOfPairs() {
        RindDates x = Due.farm("a0000000020 w34");
        x.row(1, 1);
        x.lay(1, 0, -1);
        Due.row(x, 2, 101, 0);
        Due.row(x, 3, 0, 100);
        Due.row(x, 4, 0, 0, 0, 100);
        int[] rows = {1, 2, 3, 4, 5};
        int[] findings = {SIZE, UNLIKE, UNLIKE, UNLIKE, NOTHING};
        for (int k = 0; k < rows.length; k++) {
            Due.finds("salts(0, " + rows[k] + ")", x, x.salts(0, rows[k]), findings[k]);
            Due.finds("kinds(0, " + rows[k] + ")", x, x.kinds(0, rows[k]), findings[k]);
            Due.finds("test(0, " + rows[k] + ")", x, x.test(0, rows[k]), findings[k]);
        }
        Due.row(x, 4, 0, 0, 0, -1);
        Due.finds("a later rind below 0", x, x.salts(0, 4), UNLIKE);
        Due.row(x, 4, 0, 0, 101, 0);
        Due.finds("a later anger", x, x.salts(0, 4), UNLIKE);
        int[][] bad = {{1, 5}, {-1, 5}, {0, 6}, {0, -1}};
        for (int[] b : bad) {
            Due.is("salts(" + b[0] + ", " + b[1] + ")", x.salts(b[0], b[1]), BAD);
            Due.is("kinds(" + b[0] + ", " + b[1] + ")", x.kinds(b[0], b[1]), BAD);
            Due.is("test(" + b[0] + ", " + b[1] + ")", x.test(b[0], b[1]), BAD);
        }
        Due.row(x, 2, 100, 99, 0, 0);
        Due.is("the greatest and the least", x.salts(0, 2), 0);
        RindDates none = new RindDates();
        Due.is("salts without wheels", none.salts(0, 0), BAD);
        Due.is("kinds without wheels", none.kinds(0, 0), BAD);
        Due.is("test without wheels", none.test(0, 0), BAD);
    }

    private static void promise31() {
        RindDates x = Due.farm("a0000000060 w90 w93 w95 w95 w99 w99");
        x.row(0, 0);
        Due.is("no shows", x.shows(0, 1), 0);
        Due.finds("a row of none", x, x.at(1, 0), 2);
        Due.row(x, 0, 0, 5, 9);
        Due.is("nothing on the shelf", x.shows(0, 1), 0);
        Due.rowIs("none has one", x, 1, NONE, NONE, NONE);
        for (int i = 0; i < 6; i++) {
            x.make(i);
        }
        Due.is("each", x.shows(0, 1), 3);
        Due.rowIs("the first such way", x, 1, 0, 2, 4);
        x.sell(0);
        x.sell(4);
        Due.is("each of what is left", x.shows(0, 1), 3);
        Due.rowIs("the first such way", x, 1, 1, 2, 5);
        Due.row(x, 0, 5, 5, 5, 9);
        Due.is("not all", x.shows(0, 1), 3);
        Due.rowIs("the first show has none", x, 1, NONE, 2, 3, 5);
        Due.row(x, 0, 9, 5, 99);
        Due.is("nothing so thick", x.shows(0, 0), 2);
        Due.rowIs("into the same row", x, 0, 5, 2, NONE);
        Due.row(x, 0, 3, 3, 3, 3);
        Due.is("four", x.shows(0, 2), 4);
        Due.rowIs("rising", x, 2, 1, 2, 3, 5);
        Due.row(x, 0, 5, 3);
        Due.is("the thinner one is kept for its show", x.shows(0, 3), 2);
        Due.rowIs("kept", x, 3, 2, 1);
        for (int d = 0; d < 9; d++) {
            x.day();
        }
        Due.is("gone", x.shows(0, 3), 0);
        Due.rowIs("none has one", x, 3, NONE, NONE);
        Due.is("shows are no deeds", x.count(2), 17);
    }

    private static void promise31Refusals() {
        RindDates x = Due.farm("a0000000060 w90");
        x.row(0, 5);
        x.lay(0, 0, 100);
        Due.finds("SIZE ahead of UNLIKE", x, x.shows(0, 1), SIZE);
        Due.row(x, 0, 0, 100);
        Due.finds("100", x, x.shows(0, 1), UNLIKE);
        Due.row(x, 0, -1);
        Due.finds("-1", x, x.shows(0, 0), UNLIKE);
        Due.finds("a missing row", x, x.shows(2, 0), NOTHING);
        Due.is("refused makes no row", x.count(8), 1);
        int[][] bad = {{6, 0}, {-1, 0}, {0, 6}, {0, -1}};
        RindDates none = new RindDates();
        for (int[] b : bad) {
            Due.is("shows(" + b[0] + ", " + b[1] + ")", x.shows(b[0], b[1]), BAD);
            Due.is("BAD ahead of STATE", none.shows(b[0], b[1]), BAD);
        }
        Due.is("without wheels", none.shows(0, 1), STATE);
    }
}
