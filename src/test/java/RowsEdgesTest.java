/** Promises 1 to 9: each sentence that names a boundary case, by a test of its own. */
public final class RowsEdgesTest {
    private static final int BAD = RindDates.BAD;
    private static final int NOTHING = 1, BEYOND = 2, NOUGHT = 4, SIZE = 5;
    private static final int LEAST = Integer.MIN_VALUE, GREATEST = Integer.MAX_VALUE;
    private static final int[] NO_ROWS = {-1, 6, LEAST, GREATEST};
    private static final int[] NO_TEXTS = {-1, 4, LEAST, GREATEST};

    public static void main(String[] args) {
        news();
        rows();
        places();
        copies();
        means();
        texts();
        Due.close("RowsEdgesTest");
    }

    private static void news() {
        Due.sentence("1 RindDates: no ROWS", RowsEdgesTest::noRows);
        Due.sentence("1 RindDates: no TEXTS", RowsEdgesTest::noTexts);
        Due.sentence("1 RindDates: no WHEELS", RowsEdgesTest::noWheels);
        Due.sentence("1 RindDates: each object by itself", RowsEdgesTest::apart);
    }

    private static void noRows() {
        RindDates x = new RindDates();
        Due.is("count(8)", x.count(8), 0);
        for (int r = 0; r <= 5; r++) {
            Due.finds("tear(" + r + ")", x, x.tear(r), NOTHING);
        }
    }

    private static void noTexts() {
        RindDates x = new RindDates();
        Due.is("count(9)", x.count(9), 0);
        for (int t = 0; t <= 3; t++) {
            Due.finds("put(" + t + ", 0, 1)", x, x.put(t, 0, 1), NOTHING);
            Due.finds("farm(" + t + ")", x, x.farm(t), NOTHING);
        }
    }

    private static void noWheels() {
        RindDates x = new RindDates();
        Due.is("count(0)", x.count(0), 0);
        for (int i = 0; i <= 5; i++) {
            Due.is("wheel(" + i + ", 0)", x.wheel(i, 0), BAD);
        }
    }

    private static void apart() {
        RindDates x = Due.farm("a1234567860 w10");
        x.row(0, 1);
        x.day();
        RindDates y = new RindDates();
        for (int what = 0; what <= 10; what++) {
            Due.is("count(" + what + ")", y.count(what), 0);
        }
    }

    private static void rows() {
        Due.sentence("2 row: a ROW is there with n ints 0: n", RowsEdgesTest::rowOfNoughts);
        Due.sentence("2 row: BAD: a ROW that is none", RowsEdgesTest::rowBad);
        Due.sentence("2 row: BAD: also n above 40", RowsEdgesTest::rowAbove);
        Due.sentence("2 row: SIZE: below 0", RowsEdgesTest::rowBelow);
        Due.sentence("5 tear: a ROW is missing: 1", RowsEdgesTest::tearOne);
        Due.sentence("5 tear: BAD", RowsEdgesTest::tearBad);
        Due.sentence("5 tear: NOTHING", RowsEdgesTest::tearNothing);
    }

    private static void rowOfNoughts() {
        RindDates x = new RindDates();
        int[] sizes = {0, 1, 2, 39, 40, 1, 40, 0, 3};
        for (int n : sizes) {
            Due.is("row(0, " + n + ")", x.row(0, n), n);
            for (int i = 0; i < n; i++) {
                Due.is("lay", x.lay(0, i, 5), 1);
                Due.is("what it was by asked()", x.asked(), 0);
            }
            Due.finds("no further place", x, x.at(0, n), BEYOND);
        }
        Due.is("it is one row", x.count(8), 1);
    }

    private static void rowBad() {
        RindDates x = new RindDates();
        for (int r : NO_ROWS) {
            Due.leaves("row(" + r + ", 1)", x, () -> x.row(r, 1), BAD);
            Due.leaves("row(" + r + ", -1)", x, () -> x.row(r, -1), BAD);
        }
    }

    private static void rowAbove() {
        RindDates x = new RindDates();
        Due.row(x, 0, 1, 2);
        int[] above = {41, 42, 60, GREATEST};
        for (int n : above) {
            Due.leaves("row(0, " + n + ")", x, () -> x.row(0, n), BAD);
            Due.leaves("row(1, " + n + "), missing", x, () -> x.row(1, n), BAD);
        }
        Due.rowIs("the row", x, 0, 1, 2);
    }

    private static void rowBelow() {
        RindDates x = new RindDates();
        Due.row(x, 0, 1, 2);
        int[] below = {-1, -2, -9, LEAST};
        for (int n : below) {
            Due.leavesBy("row(0, " + n + ")", x, () -> x.row(0, n), SIZE);
            Due.leavesBy("row(1, " + n + "), missing", x, () -> x.row(1, n), SIZE);
        }
        Due.rowIs("the row", x, 0, 1, 2);
    }

    private static void tearOne() {
        RindDates x = new RindDates();
        x.row(0, 0);
        x.row(5, 40);
        long none = new RindDates().digest();
        Due.is("tear(0), without places", x.tear(0), 1);
        Due.is("one is there", x.count(8), 1);
        Due.is("tear(5), full", x.tear(5), 1);
        Due.is("none is there", x.count(8), 0);
        Due.is("as at first", x.digest(), none);
        Due.is("it can be there again", x.row(5, 2), 2);
        Due.rowIs("of noughts", x, 5, 0, 0);
    }

    private static void tearBad() {
        RindDates x = new RindDates();
        x.row(0, 1);
        for (int r : NO_ROWS) {
            Due.leaves("tear(" + r + ")", x, () -> x.tear(r), BAD);
        }
    }

    private static void tearNothing() {
        RindDates x = new RindDates();
        Due.leavesBy("missing at first", x, () -> x.tear(3), NOTHING);
        x.row(3, 2);
        x.tear(3);
        Due.leavesBy("torn already", x, () -> x.tear(3), NOTHING);
    }

    private static void places() {
        Due.sentence("3 lay: place i is v: what it was, told by asked(): 1", RowsEdgesTest::layAll);
        Due.sentence("3 lay: BAD", RowsEdgesTest::layBad);
        Due.sentence("3 lay: NOTHING", RowsEdgesTest::layNothing);
        Due.sentence("3 lay: BEYOND", RowsEdgesTest::layBeyond);
        Due.sentence("4 at: place i, told by asked(): 1", RowsEdgesTest::atAll);
        Due.sentence("4 at: BAD", RowsEdgesTest::atBad);
        Due.sentence("4 at: NOTHING", RowsEdgesTest::atNothing);
        Due.sentence("4 at: BEYOND", RowsEdgesTest::atBeyond);
    }

    private static void layAll() {
        RindDates x = new RindDates();
        x.row(5, 40);
        int[] values = {LEAST, GREATEST, -1, 0, RindDates.NONE, RindDates.FINDING, 1};
        int was = 0;
        for (int v : values) {
            Due.tells("lay(5, 39, " + v + ")", x, x.lay(5, 39, v), was);
            was = v;
        }
        Due.tells("the first place stays", x, x.lay(5, 0, 7), 0);
        Due.tells("the last place stays", x, x.at(5, 39), 1);
    }

    private static void layBad() {
        RindDates x = new RindDates();
        for (int r : NO_ROWS) {
            Due.leaves("lay(" + r + ", 0, 1)", x, () -> x.lay(r, 0, 1), BAD);
        }
        Due.leaves("BAD ahead of BEYOND", x, () -> x.lay(6, -1, 1), BAD);
    }

    private static void layNothing() {
        RindDates x = new RindDates();
        x.row(0, 2);
        Due.leavesBy("lay(1, 0, 1)", x, () -> x.lay(1, 0, 1), NOTHING);
        Due.leavesBy("NOTHING ahead of BEYOND", x, () -> x.lay(1, -1, 1), NOTHING);
        x.tear(0);
        Due.leavesBy("torn", x, () -> x.lay(0, 0, 1), NOTHING);
    }

    private static void layBeyond() {
        RindDates x = new RindDates();
        x.row(0, 2);
        x.row(1, 0);
        int[] beyond = {-1, 2, 3, 40, LEAST, GREATEST};
        for (int i : beyond) {
            Due.leavesBy("lay(0, " + i + ", 1)", x, () -> x.lay(0, i, 1), BEYOND);
        }
        Due.leavesBy("lay(1, 0, 1)", x, () -> x.lay(1, 0, 1), BEYOND);
    }

    private static void atAll() {
        RindDates x = new RindDates();
        Due.row(x, 0, LEAST, 0, GREATEST);
        Due.tells("at(0, 0)", x, x.at(0, 0), LEAST);
        Due.tells("at(0, 1)", x, x.at(0, 1), 0);
        Due.tells("at(0, 2)", x, x.at(0, 2), GREATEST);
        Due.tells("as it was", x, x.at(0, 0), LEAST);
    }

    private static void atBad() {
        RindDates x = new RindDates();
        for (int r : NO_ROWS) {
            Due.leaves("at(" + r + ", 0)", x, () -> x.at(r, 0), BAD);
        }
        Due.leaves("BAD ahead of BEYOND", x, () -> x.at(6, -1), BAD);
    }

    private static void atNothing() {
        RindDates x = new RindDates();
        x.row(0, 2);
        Due.leavesBy("at(1, 0)", x, () -> x.at(1, 0), NOTHING);
        Due.leavesBy("NOTHING ahead of BEYOND", x, () -> x.at(1, -1), NOTHING);
        x.tear(0);
        Due.leavesBy("torn", x, () -> x.at(0, 0), NOTHING);
    }

    private static void atBeyond() {
        RindDates x = new RindDates();
        x.row(0, 2);
        x.row(1, 0);
        int[] beyond = {-1, 2, 3, 40, LEAST, GREATEST};
        for (int i : beyond) {
            Due.leavesBy("at(0, " + i + ")", x, () -> x.at(0, i), BEYOND);
        }
        Due.leavesBy("at(1, 0)", x, () -> x.at(1, 0), BEYOND);
    }

    private static void copies() {
        Due.sentence("6 copy: n places of a ROW come to those of another one: 1", RowsEdgesTest::copyAll);
        Due.sentence("6 copy: perhaps itself, as if taken ahead", RowsEdgesTest::copyItself);
        Due.sentence("6 copy: n places, 0", RowsEdgesTest::copyNone);
        Due.sentence("6 copy: BAD", RowsEdgesTest::copyBad);
        Due.sentence("6 copy: SIZE: n below 0", RowsEdgesTest::copySize);
        Due.sentence("6 copy: NOTHING: either", RowsEdgesTest::copyNothing);
        Due.sentence("6 copy: BEYOND: not so many there", RowsEdgesTest::copyBeyond);
        Due.sentence("6 copy: BEYOND: also with n 0, if i, j is below 0, or above its size", RowsEdgesTest::copyNoneBeyond);
        Due.sentence("6 copy: (in this order)", RowsEdgesTest::copyOrder);
    }

    private static void copyAll() {
        RindDates x = new RindDates();
        x.row(0, 40);
        x.row(5, 40);
        for (int i = 0; i < 40; i++) {
            x.lay(0, i, i - 7);
        }
        Due.is("all of a full one", x.copy(0, 0, 5, 0, 40), 1);
        for (int i = 0; i < 40; i++) {
            Due.tells("place " + i, x, x.at(5, i), i - 7);
        }
        Due.row(x, 1, 1, 2, 3);
        Due.row(x, 2, 4, 5, 6, 7);
        Due.is("the last places", x.copy(1, 1, 2, 2, 2), 1);
        Due.rowIs("to the last ones", x, 2, 4, 5, 2, 3);
        Due.rowIs("taken from", x, 1, 1, 2, 3);
        Due.is("copy tells nothing by asked()", x.copy(1, 0, 2, 0, 1) == 1 ? x.asked() : -1, 3);
    }

    private static void copyItself() {
        RindDates x = new RindDates();
        Due.row(x, 0, 1, 2, 3, 4, 5);
        Due.is("up by one", x.copy(0, 0, 0, 1, 4), 1);
        Due.rowIs("up by one", x, 0, 1, 1, 2, 3, 4);
        Due.row(x, 0, 1, 2, 3, 4, 5);
        Due.is("down by one", x.copy(0, 1, 0, 0, 4), 1);
        Due.rowIs("down by one", x, 0, 2, 3, 4, 5, 5);
        Due.row(x, 0, 1, 2, 3, 4, 5);
        Due.is("onto the same", x.copy(0, 0, 0, 0, 5), 1);
        Due.rowIs("onto the same", x, 0, 1, 2, 3, 4, 5);
    }

    private static void copyNone() {
        RindDates x = new RindDates();
        Due.row(x, 0, 1, 2);
        Due.row(x, 1, 3);
        x.row(2, 0);
        long before = x.digest();
        Due.is("from the first place", x.copy(0, 0, 1, 0, 0), 1);
        Due.is("from behind the last one", x.copy(0, 2, 1, 1, 0), 1);
        Due.is("of one without places", x.copy(2, 0, 2, 0, 0), 1);
        Due.is("nothing changes", x.digest(), before);
    }

    private static void copyBad() {
        RindDates x = new RindDates();
        Due.row(x, 0, 1);
        for (int r : NO_ROWS) {
            Due.leaves("copy(" + r + ", ..)", x, () -> x.copy(r, 0, 0, 0, 1), BAD);
            Due.leaves("copy(0, 0, " + r + ", ..)", x, () -> x.copy(0, 0, r, 0, 1), BAD);
        }
    }

    private static void copySize() {
        RindDates x = new RindDates();
        Due.row(x, 0, 1, 2);
        int[] below = {-1, -2, LEAST};
        for (int n : below) {
            Due.leavesBy("copy(.., " + n + ")", x, () -> x.copy(0, 1, 0, 0, n), SIZE);
        }
    }

    private static void copyNothing() {
        RindDates x = new RindDates();
        Due.row(x, 0, 1);
        Due.leavesBy("the one", x, () -> x.copy(1, 0, 0, 0, 1), NOTHING);
        Due.leavesBy("the other", x, () -> x.copy(0, 0, 1, 0, 1), NOTHING);
        Due.leavesBy("both", x, () -> x.copy(1, 0, 2, 0, 1), NOTHING);
        Due.leavesBy("with n 0", x, () -> x.copy(1, 0, 0, 0, 0), NOTHING);
    }

    private static void copyBeyond() {
        RindDates x = new RindDates();
        Due.row(x, 0, 1, 2, 3);
        Due.row(x, 1, 4, 5);
        int[][] beyond = {{0, 0, 3}, {0, 1, 2}, {2, 0, 2}, {3, 0, 1}, {0, 2, 1}, {-1, 0, 1}, {0, -1, 1}, {-1, 0, 2}, {0, 0, GREATEST},
            {1, 0, GREATEST}, {0, 1, GREATEST}, {1, 1, GREATEST}, {3, 2, GREATEST}, {GREATEST, 0, 1}, {0, GREATEST, 1},
            {GREATEST, GREATEST, GREATEST}, {LEAST, 0, 1}, {0, LEAST, GREATEST}};
        for (int[] b : beyond) {
            String call = "copy(0, " + b[0] + ", 1, " + b[1] + ", " + b[2] + ")";
            Due.leavesBy(call, x, () -> x.copy(0, b[0], 1, b[1], b[2]), BEYOND);
        }
        RindDates y = new RindDates();
        Due.row(y, 0, 1, 2, 3);
        Due.leavesBy("within itself, from", y, () -> y.copy(0, 1, 0, 0, 3), BEYOND);
        Due.leavesBy("within itself, to", y, () -> y.copy(0, 0, 0, 1, 3), BEYOND);
    }

    private static void copyNoneBeyond() {
        RindDates x = new RindDates();
        Due.row(x, 0, 1, 2, 3);
        x.row(1, 0);
        Due.leavesBy("i below 0", x, () -> x.copy(0, -1, 0, 0, 0), BEYOND);
        Due.leavesBy("j below 0", x, () -> x.copy(0, 0, 0, -1, 0), BEYOND);
        Due.leavesBy("i above its size", x, () -> x.copy(0, 4, 0, 0, 0), BEYOND);
        Due.leavesBy("j above its size", x, () -> x.copy(0, 0, 0, 4, 0), BEYOND);
        Due.leavesBy("i above 0 places", x, () -> x.copy(1, 1, 0, 0, 0), BEYOND);
        Due.leavesBy("j above 0 places", x, () -> x.copy(0, 0, 1, 1, 0), BEYOND);
        Due.is("i at its size", x.copy(0, 3, 0, 0, 0), 1);
        Due.is("j at its size", x.copy(0, 0, 0, 3, 0), 1);
    }

    private static void copyOrder() {
        RindDates x = new RindDates();
        Due.row(x, 0, 1);
        Due.leaves("BAD ahead of SIZE", x, () -> x.copy(0, 9, 6, 9, -1), BAD);
        Due.leavesBy("SIZE ahead of NOTHING", x, () -> x.copy(1, 9, 2, 9, -1), SIZE);
        Due.leavesBy("SIZE ahead of BEYOND", x, () -> x.copy(0, -1, 0, 9, -1), SIZE);
        Due.leavesBy("NOTHING ahead of BEYOND, from", x, () -> x.copy(1, -1, 0, 9, 1), NOTHING);
        Due.leavesBy("NOTHING ahead of BEYOND, to", x, () -> x.copy(0, 9, 1, -1, 1), NOTHING);
    }

    private static void means() {
        Due.sentence("7 mean: of a ROW's ints, cut, told by asked(): 1", RowsEdgesTest::meanCut);
        Due.sentence("7 mean: of ints whose sum is none", RowsEdgesTest::meanOfGreat);
        Due.sentence("7 mean: BAD", RowsEdgesTest::meanBad);
        Due.sentence("7 mean: NOTHING", RowsEdgesTest::meanNothing);
        Due.sentence("7 mean: NOUGHT", RowsEdgesTest::meanNought);
    }

    private static void meanIs(int due, int... places) {
        RindDates x = new RindDates();
        Due.row(x, 0, places);
        Due.tells("mean of " + places.length + " from " + places[0] + " on", x, x.mean(0), due);
        Due.is("it tells nothing by upper()", x.upper(), 0);
    }

    private static void meanCut() {
        meanIs(5, 5);
        meanIs(2, 2, 3);
        meanIs(2, 2, 2, 4);
        meanIs(0, 0, 0, 2);
        meanIs(0, -1, 0);
        meanIs(-1, -1, -2);
        meanIs(0, 1, -1);
    }

    private static void meanOfGreat() {
        int[] great = new int[40];
        java.util.Arrays.fill(great, GREATEST);
        meanIs(GREATEST, great);
        java.util.Arrays.fill(great, LEAST);
        meanIs(LEAST, great);
        meanIs(GREATEST - 1, GREATEST, GREATEST - 1);
        meanIs(0, LEAST, GREATEST);
    }

    private static void meanBad() {
        RindDates x = new RindDates();
        for (int r : NO_ROWS) {
            Due.leaves("mean(" + r + ")", x, () -> x.mean(r), BAD);
        }
    }

    private static void meanNothing() {
        RindDates x = new RindDates();
        Due.leavesBy("missing at first", x, () -> x.mean(5), NOTHING);
        x.row(5, 0);
        x.tear(5);
        Due.leavesBy("torn", x, () -> x.mean(5), NOTHING);
    }

    private static void meanNought() {
        RindDates x = new RindDates();
        Due.row(x, 0, 9);
        x.row(0, 0);
        Due.leavesBy("of none", x, () -> x.mean(0), NOUGHT);
    }

    private static void texts() {
        Due.sentence("8 text: a TEXT is there with n blanks: n", RowsEdgesTest::textOfBlanks);
        Due.sentence("8 text: BAD: a TEXT that is none", RowsEdgesTest::textBad);
        Due.sentence("8 text: BAD: also n above 60", RowsEdgesTest::textAbove);
        Due.sentence("8 text: SIZE: below 0", RowsEdgesTest::textBelow);
        Due.sentence("9 put: v, cut to a byte (-128 .. 127)", RowsEdgesTest::putCut);
        Due.sentence("9 put: what it was, and 1000 more", RowsEdgesTest::putWas);
        Due.sentence("9 put: BAD", RowsEdgesTest::putBad);
        Due.sentence("9 put: NOTHING", RowsEdgesTest::putNothing);
        Due.sentence("9 put: BEYOND", RowsEdgesTest::putBeyond);
    }

    private static void textOfBlanks() {
        RindDates x = new RindDates();
        int[] sizes = {0, 1, 59, 60, 2, 60, 0, 3};
        for (int n : sizes) {
            Due.is("text(3, " + n + ")", x.text(3, n), n);
            for (int i = 0; i < n; i++) {
                Due.is("a blank", x.put(3, i, 5), 1032);
            }
            Due.finds("no further place", x, x.put(3, n, 5), BEYOND);
        }
        Due.is("it is one text", x.count(9), 1);
    }

    private static void textBad() {
        RindDates x = new RindDates();
        for (int t : NO_TEXTS) {
            Due.leaves("text(" + t + ", 1)", x, () -> x.text(t, 1), BAD);
            Due.leaves("text(" + t + ", -1)", x, () -> x.text(t, -1), BAD);
        }
    }

    private static void textAbove() {
        RindDates x = new RindDates();
        Due.text(x, 0, "ab");
        int[] above = {61, 62, 100, GREATEST};
        for (int n : above) {
            Due.leaves("text(0, " + n + ")", x, () -> x.text(0, n), BAD);
            Due.leaves("text(1, " + n + "), missing", x, () -> x.text(1, n), BAD);
        }
    }

    private static void textBelow() {
        RindDates x = new RindDates();
        Due.text(x, 0, "ab");
        int[] below = {-1, -2, -9, LEAST};
        for (int n : below) {
            Due.leavesBy("text(0, " + n + ")", x, () -> x.text(0, n), SIZE);
            Due.leavesBy("text(1, " + n + "), missing", x, () -> x.text(1, n), SIZE);
        }
    }

    private static void putCut() {
        RindDates x = new RindDates();
        x.text(0, 1);
        int[] values = {127, 128, -128, -129, 255, 256, 257, 383, 384, -256, -255, GREATEST, LEAST, GREATEST - 127, LEAST + 128};
        int[] bytes = {127, -128, -128, 127, -1, 0, 1, 127, -128, 0, 1, -1, 0, -128, -128};
        int was = 32;
        for (int k = 0; k < values.length; k++) {
            Due.is("put(0, 0, " + values[k] + ")", x.put(0, 0, values[k]), 1000 + was);
            was = bytes[k];
        }
        Due.is("the last of these", x.put(0, 0, 0), 1000 + was);
    }

    private static void putWas() {
        RindDates x = new RindDates();
        x.text(3, 60);
        Due.is("a blank", x.put(3, 59, -128), 1032);
        Due.is("the least", x.put(3, 59, 127), 872);
        Due.is("the greatest", x.put(3, 59, 0), 1127);
        Due.is("nought", x.put(3, 59, 0), 1000);
        Due.is("the other places stay", x.put(3, 0, 0), 1032);
        Due.is("put tells nothing by asked()", x.asked(), 0);
    }

    private static void putBad() {
        RindDates x = new RindDates();
        for (int t : NO_TEXTS) {
            Due.leaves("put(" + t + ", 0, 1)", x, () -> x.put(t, 0, 1), BAD);
        }
        Due.leaves("BAD ahead of BEYOND", x, () -> x.put(4, -1, 1), BAD);
    }

    private static void putNothing() {
        RindDates x = new RindDates();
        x.text(0, 2);
        x.row(1, 2);
        Due.leavesBy("put(1, 0, 1)", x, () -> x.put(1, 0, 1), NOTHING);
        Due.leavesBy("NOTHING ahead of BEYOND", x, () -> x.put(1, -1, 1), NOTHING);
    }

    private static void putBeyond() {
        RindDates x = new RindDates();
        x.text(0, 2);
        x.text(1, 0);
        int[] beyond = {-1, 2, 3, 60, LEAST, GREATEST};
        for (int i : beyond) {
            Due.leavesBy("put(0, " + i + ", 1)", x, () -> x.put(0, i, 1), BEYOND);
        }
        Due.leavesBy("put(1, 0, 1)", x, () -> x.put(1, 0, 1), BEYOND);
    }
}
