/** Promises 28 to 31: each sentence that names a boundary case, by a test of its own. */
public final class WheelsEdgesTest {
    private static final int BAD = RindDates.BAD, STATE = RindDates.STATE, NONE = RindDates.NONE;
    private static final int NOTHING = 1, BEYOND = 2, UNLIKE = 3, SIZE = 5;
    private static final int LEAST = Integer.MIN_VALUE, GREATEST = Integer.MAX_VALUE;
    private static final int[] NO_ROWS = {-1, 6, LEAST, GREATEST};
    private static final int ALL_SALTS = 1023, ALL_KINDS = 63;

    /** salts(), kinds(), test() of wheel i by row r. */
    private interface ByPairs {
        int of(RindDates x, int i, int r);
    }

    public static void main(String[] args) {
        salts();
        kinds();
        tests();
        shows();
        Due.close("WheelsEdgesTest");
    }

    private static RindDates by(String signs, int... pairs) {
        RindDates x = Due.farm(signs);
        Due.row(x, 0, pairs);
        return x;
    }

    private static void salts() {
        Due.sentence("28 salts: SALTS (bits 0 .. 9) that a WHEEL can have by these", WheelsEdgesTest::saltBits);
        Due.sentence("28 salts: of its KIND", WheelsEdgesTest::saltsOfKind);
        Due.sentence("5: by the LIMIT", WheelsEdgesTest::saltsByLimit);
        Due.sentence("28 salts: BAD", () -> bad(RindDates::salts));
        Due.sentence("28 salts: NOTHING", () -> nothing(RindDates::salts));
        Due.sentence("28 salts: SIZE: not by pairs", () -> size(RindDates::salts));
        Due.sentence("28 salts: (a ROW without places is well)", WheelsEdgesTest::saltsByNone);
        Due.sentence("28 salts: UNLIKE: ANGER 0 .. 100, the RIND 0 .. 99", () -> unlike(RindDates::salts));
        Due.sentence("28 salts: (in this order)", () -> order(RindDates::salts));
    }

    private static void saltBits() {
        for (int salt = 0; salt <= 9; salt++) {
            RindDates x = by("a0000000060 w15", 59, salt + 14);
            Due.is("salt " + salt + " alone", x.salts(0, 0), 1 << salt);
        }
        Due.is("none below 0", by("a0000000060 w15", 59, 13).salts(0, 0), 0);
        Due.is("none above 9", by("a0000000060 w15", 59, 24).salts(0, 0), 0);
        Due.is("both pairs are so", by("a0000000060 w15", 0, 3, 60, 36).salts(0, 0), 1 << 3);
        Due.is("the second is not so", by("a0000000060 w15", 0, 3, 60, 38).salts(0, 0), 0);
        Due.is("the first is not so", by("a0000000060 w15", 0, 4, 60, 36).salts(0, 0), 0);
        RindDates full = Due.farm("a0000000060 w15");
        full.row(0, 40);
        Due.is("by twenty pairs", full.salts(0, 0), 1);
        full.lay(0, 39, 1);
        Due.is("the twentieth is not so", full.salts(0, 0), 0);
    }

    private static void saltsOfKind() {
        String wheels = " w10 o10 y10 s10 r10 l10";
        RindDates x = by("a0000000060" + wheels, 0, 4);
        int[] due = {1 << 4, 1 << 2, 1 << 8 | 1 << 9, 1 << 2, 0, 0};
        for (int i = 0; i < due.length; i++) {
            Due.is("wheel " + i, x.salts(i, 0), due[i]);
        }
        RindDates bound = by("a0000000060" + wheels, 60, 20);
        Due.is("a show of any salt", bound.salts(3, 0), ALL_SALTS);
        Due.is("a long one of none", bound.salts(5, 0), 0);
        Due.row(bound, 0, 60, 25);
        Due.is("a long one of any", bound.salts(5, 0), ALL_SALTS);
        Due.row(bound, 0, 59, 0);
        Due.is("a runny one of any", bound.salts(4, 0), ALL_SALTS);
        Due.row(bound, 0, 60, 15);
        Due.is("a runny one of the least, by silence", bound.salts(4, 0), 1);
        bound.make(0);
        Due.row(bound, 0, 0, 4);
        Due.is("its own salt is not asked for", bound.salts(0, 0), 1 << 4);
    }

    private static void saltsByLimit() {
        Due.is("below it", by("a0000000020 w10", 19, 8).salts(0, 0), 1 << 4);
        Due.is("at it", by("a0000000020 w10", 20, 18).salts(0, 0), 1 << 4);
        Due.is("at it an odd one", by("a0000000020 w10", 20, 17).salts(0, 0), 0);
        Due.is("anger 0 is never silent", by("a0000000001 w10", 0, 9).salts(0, 0), 1 << 9);
        Due.is("anger 1 by the least limit", by("a0000000001 w10", 1, 18).salts(0, 0), 1 << 9);
        Due.is("the greatest anger", by("a0000000060 w10", 100, 68).salts(0, 0), 1 << 9);
    }

    private static void saltsByNone() {
        RindDates x = Due.farm("a0000000060 w10 r10");
        x.row(0, 0);
        Due.is("salts(0, 0)", x.salts(0, 0), ALL_SALTS);
        Due.is("salts(1, 0)", x.salts(1, 0), ALL_SALTS);
        Due.is("it is no refusal", x.finding(), 0);
    }

    private static void bad(ByPairs call) {
        RindDates x = Due.farm("a0000000060 w10 w10");
        x.row(0, 2);
        int[] wheels = {-1, 2, 6, LEAST, GREATEST};
        for (int i : wheels) {
            Due.leaves("of wheel " + i, x, () -> call.of(x, i, 0), BAD);
        }
        for (int r : NO_ROWS) {
            Due.leaves("by row " + r, x, () -> call.of(x, 1, r), BAD);
        }
        RindDates none = new RindDates();
        none.row(0, 0);
        Due.leaves("without wheels", none, () -> call.of(none, 0, 0), BAD);
    }

    private static void nothing(ByPairs call) {
        RindDates x = Due.farm("a0000000060 w10");
        Due.leavesBy("missing at first", x, () -> call.of(x, 0, 5), NOTHING);
        x.row(5, 2);
        x.tear(5);
        Due.leavesBy("torn", x, () -> call.of(x, 0, 5), NOTHING);
    }

    private static void size(ByPairs call) {
        RindDates x = Due.farm("a0000000060 w10");
        int[] odd = {1, 3, 21, 39};
        for (int n : odd) {
            x.row(0, n);
            Due.leavesBy("of " + n, x, () -> call.of(x, 0, 0), SIZE);
        }
        int[] even = {0, 2, 4, 40};
        for (int n : even) {
            x.row(0, n);
            Due.is("of " + n + " it is well", call.of(x, 0, 0) >= 0 ? 1 : 0, 1);
        }
    }

    private static void unlike(ByPairs call) {
        int[][] pairs = {{101, 0}, {-1, 0}, {NONE, 0}, {0, 100}, {0, -1}, {0, NONE}, {LEAST, 0}, {0, GREATEST}, {GREATEST, 0}, {0, LEAST}};
        for (int[] p : pairs) {
            RindDates x = Due.farm("a0000000060 w10");
            Due.row(x, 0, p[0], p[1], 0, 0);
            Due.leavesBy(p[0] + ", " + p[1] + " first", x, () -> call.of(x, 0, 0), UNLIKE);
            Due.row(x, 0, 0, 9, p[0], p[1]);
            Due.leavesBy(p[0] + ", " + p[1] + " last", x, () -> call.of(x, 0, 0), UNLIKE);
        }
        RindDates well = Due.farm("a0000000060 w10");
        Due.row(well, 0, 100, 99);
        int greatest = call.of(well, 0, 0);
        Due.is("100, 99 fits nothing", greatest == 0 || greatest == NONE ? 1 : 0, 1);
        Due.row(well, 0, 0, 0);
        Due.is("0, 0 fits", call.of(well, 0, 0) >= 0 ? 1 : 0, 1);
        Due.is("no finding", well.finding(), 0);
    }

    private static void order(ByPairs call) {
        RindDates x = Due.farm("a0000000060 w10");
        Due.leaves("BAD ahead of NOTHING", x, () -> call.of(x, 1, 5), BAD);
        Due.row(x, 0, -1, -1, -1);
        Due.leaves("BAD ahead of SIZE", x, () -> call.of(x, -1, 0), BAD);
        Due.leavesBy("SIZE ahead of UNLIKE", x, () -> call.of(x, 0, 0), SIZE);
    }

    private static void kinds() {
        Due.sentence("29 kinds: KINDS (bits) that it can be of by these", WheelsEdgesTest::kindBits);
        Due.sentence("29 kinds: its SALT as it is", WheelsEdgesTest::kindsBySalt);
        Due.sentence("29 kinds: by a ROW without places", WheelsEdgesTest::kindsByNone);
        Due.sentence("29 kinds: BAD", () -> bad(RindDates::kinds));
        Due.sentence("29 kinds: NOTHING", () -> nothing(RindDates::kinds));
        Due.sentence("29 kinds: SIZE", () -> size(RindDates::kinds));
        Due.sentence("29 kinds: UNLIKE", () -> unlike(RindDates::kinds));
        Due.sentence("29 kinds: (in this order)", () -> order(RindDates::kinds));
    }

    private static void kindBits() {
        // Salt 4 by anger 40: 14 plain, 16 old, 7 young.
        int[] rinds = {14, 16, 7, 0, 21, 15};
        int[] due = {1 << 0, 1 << 1 | 1 << 3, 1 << 2, 1 << 4, 1 << 5, 0};
        for (int k = 0; k < rinds.length; k++) {
            Due.is("rind " + rinds[k], by("a0000000060 r14", 40, rinds[k]).kinds(0, 0), due[k]);
        }
        Due.is("old, not a show", by("a0000000060 w19", 59, 25).kinds(0, 0), 1 << 1 | 1 << 5);
        Due.is("a show at its bound", by("a0000000060 w19", 59, 20).kinds(0, 0), 1 << 3);
        Due.is("by two pairs", by("a0000000060 w19", 59, 25, 0, 11).kinds(0, 0), 1 << 1);
        Due.is("by two pairs the other", by("a0000000060 w19", 59, 25, 0, 16).kinds(0, 0), 1 << 5);
        Due.is("by two that can't be", by("a0000000060 w19", 59, 25, 0, 9).kinds(0, 0), 0);
    }

    private static void kindsBySalt() {
        RindDates x = by("a0000000060 l10 w12", 0, 2);
        Due.is("of salt 0", x.kinds(0, 0), 1 << 1 | 1 << 3);
        Due.is("of salt 2", x.kinds(1, 0), 1 << 0);
        Due.row(x, 0, 0, 0);
        Due.is("of salt 0, no rind", x.kinds(0, 0), 1 << 0 | 1 << 2 | 1 << 4);
        Due.is("of salt 2, no rind", x.kinds(1, 0), 1 << 4);
    }

    private static void kindsByNone() {
        RindDates x = Due.farm("a0000000060 w10 l19");
        x.row(0, 0);
        Due.is("kinds(0, 0)", x.kinds(0, 0), ALL_KINDS);
        Due.is("kinds(1, 0)", x.kinds(1, 0), ALL_KINDS);
    }

    private static void tests() {
        Due.sentence("30 test: the ANGER (0 .. 100) by which a WHEEL made then would tell these KINDS apart best (the first)",
            WheelsEdgesTest::testFirst);
        Due.sentence("30 test: the greatest part of those alike is least; that part by asked()", WheelsEdgesTest::testPart);
        Due.sentence("30 test: NONE: there is no KIND", WheelsEdgesTest::testNone);
        Due.sentence("30 test: BAD", () -> bad(RindDates::test));
        Due.sentence("30 test: NOTHING", () -> nothing(RindDates::test));
        Due.sentence("30 test: SIZE", () -> size(RindDates::test));
        Due.sentence("30 test: UNLIKE", () -> unlike(RindDates::test));
        Due.sentence("30 test: (in this order)", () -> order(RindDates::test));
    }

    private static void testIs(RindDates x, int anger, int part) {
        Due.is("test(0, 0)", x.test(0, 0), anger);
        Due.is("its greatest part", x.asked(), part);
    }

    private static void testFirst() {
        // Old and a show, salt 0: apart from 76 on while they speak, from the limit on if they are silent.
        testIs(by("a0000000060 w10", 0, 2), 60, 1);
        testIs(by("a0000000059 w10", 0, 2), 59, 1);
        testIs(by("a0000000040 w10", 0, 2), 40, 1);
        testIs(by("a0000000039 w10", 0, 2), 40, 1);
        testIs(by("a0000000060 w19", 0, 11), 40, 1);
        // A wheel, a young and a runny one, salt 0: the wheel is apart from 4 on, the young one from 8 on.
        testIs(by("a0000000060 w10", 0, 0), 8, 1);
        testIs(by("a0000000008 w10", 0, 0), 4, 2);
        testIs(by("a0000000060 w19", 0, 9), 0, 1);
    }

    private static void testPart() {
        RindDates x = Due.farm("a0000000001 w10");
        x.row(0, 0);
        // By anger 0 a wheel, a young and a runny one are alike; silent by 4 or more two and two are.
        testIs(x, 4, 2);
        testIs(by("a0000000001 w10", 4, 1), 0, 2);
        testIs(by("a0000000001 w12", 4, 3), 0, 1);
        testIs(by("a0000000060 w10", 0, 7), 0, 1);
        RindDates all = Due.farm("a0000000060 w19");
        all.row(0, 0);
        testIs(all, 40, 1);
    }

    private static void testNone() {
        RindDates x = by("a0000000060 w10", 0, 1);
        x.at(0, 1);
        Due.leaves("test(0, 0)", x, () -> x.test(0, 0), NONE);
        Due.is("kinds(0, 0)", x.kinds(0, 0), 0);
    }

    private static void shows() {
        Due.sentence("6: a ROW of 0 to 4 SHOWS", WheelsEdgesTest::showSizes);
        Due.sentence("31 shows: how many SHOWS at most can have a WHEEL of the SHELF each", WheelsEdgesTest::showsAtMost);
        Due.sentence("31 shows: of a RIND as wanted (or thicker)", WheelsEdgesTest::showsAsWanted);
        Due.sentence("31 shows: which WHEEL each has comes to a ROW (perhaps the same; anew)", WheelsEdgesTest::showsRow);
        Due.sentence("31 shows: (NONE: none)", WheelsEdgesTest::showsNone);
        Due.sentence("31 shows: by the first such way (rising; NONE least)", WheelsEdgesTest::showsFirst);
        Due.sentence("31 shows: BAD", WheelsEdgesTest::showsBad);
        Due.sentence("31 shows: STATE: no WHEELS", WheelsEdgesTest::showsState);
        Due.sentence("31 shows: NOTHING", WheelsEdgesTest::showsNothing);
        Due.sentence("31 shows: SIZE: more than 4", WheelsEdgesTest::showsSize);
        Due.sentence("31 shows: UNLIKE: the least RIND that each takes, 0 .. 99", WheelsEdgesTest::showsUnlike);
        Due.sentence("31 shows: (in this order)", WheelsEdgesTest::showsOrder);
    }

    /** Six wheels made by no anger: their rinds are their salts. */
    private static RindDates shelf(String wheels) {
        RindDates x = Due.farm("a0000000060" + wheels);
        for (int i = 0; i < x.count(0); i++) {
            x.make(i);
        }
        return x;
    }

    private static void showSizes() {
        RindDates x = shelf(" w90 w91 w92 w93 w94 w95");
        x.row(0, 0);
        Due.is("no shows", x.shows(0, 1), 0);
        Due.finds("a row without places", x, x.at(1, 0), BEYOND);
        Due.row(x, 0, 5);
        Due.is("one", x.shows(0, 1), 1);
        Due.rowIs("one", x, 1, 5);
        Due.row(x, 0, 5, 4, 3, 2);
        Due.is("four", x.shows(0, 1), 4);
        Due.rowIs("four", x, 1, 5, 4, 3, 2);
    }

    private static void showsAtMost() {
        RindDates x = shelf(" w90 w91 w92 w93");
        Due.row(x, 0, 3, 3, 3, 3);
        Due.is("one that is thick enough", x.shows(0, 1), 1);
        Due.row(x, 0, 0, 0, 0, 3);
        Due.is("all", x.shows(0, 1), 4);
        Due.rowIs("the thick one for the last", x, 1, 0, 1, 2, 3);
        x.sell(3);
        Due.is("without the one that is sold", x.shows(0, 1), 3);
        Due.is("not made is not on the shelf", Due.farm("a0000000060 w99").row(0, 1), 1);
        RindDates two = shelf(" w19 w98");
        Due.row(two, 0, 0, 0, 0);
        Due.is("two wheels, three shows", two.shows(0, 1), 2);
        two.day();
        Due.is("without the one that is gone", two.shows(0, 1), 1);
        Due.rowIs("the other", two, 1, NONE, NONE, 1);
    }

    private static void showsAsWanted() {
        RindDates x = shelf(" w94");
        Due.row(x, 0, 4);
        Due.is("as wanted", x.shows(0, 1), 1);
        Due.row(x, 0, 3);
        Due.is("thicker", x.shows(0, 1), 1);
        Due.row(x, 0, 5);
        Due.is("thinner", x.shows(0, 1), 0);
        Due.row(x, 0, 99);
        Due.is("never so thick", x.shows(0, 1), 0);
        Due.row(x, 0, 0);
        Due.is("any", x.shows(0, 1), 1);
        for (int k = 0; k < 4; k++) {
            x.say(k);
        }
        Due.row(x, 0, 5);
        Due.is("its rind is as it was made", x.shows(0, 1), 0);
    }

    private static void showsRow() {
        RindDates x = shelf(" w90 w91 w92");
        Due.row(x, 0, 2, 1);
        x.row(5, 40);
        Due.is("to a full one", x.shows(0, 5), 2);
        Due.rowIs("anew", x, 5, 2, 1);
        Due.is("to a missing one", x.shows(0, 4), 2);
        Due.rowIs("it is there", x, 4, 2, 1);
        Due.rowIs("what is wanted stays", x, 0, 2, 1);
        Due.is("to the same", x.shows(0, 0), 2);
        Due.rowIs("the same", x, 0, 2, 1);
        Due.row(x, 0, 0, 0, 2);
        Due.is("to the same, of three", x.shows(0, 0), 3);
        Due.rowIs("of three", x, 0, 0, 1, 2);
        Due.is("shows() tells nothing by asked()", x.shows(0, 0) == 3 ? x.finding() : -1, BEYOND);
    }

    private static void showsNone() {
        RindDates x = Due.farm("a0000000060 w90 w99");
        Due.row(x, 0, 0, 9, 10, 99);
        Due.is("nothing is made", x.shows(0, 1), 0);
        Due.rowIs("none has one", x, 1, NONE, NONE, NONE, NONE);
        x.make(1);
        Due.is("one is made", x.shows(0, 1), 1);
        Due.rowIs("the one has it", x, 1, NONE, 1, NONE, NONE);
    }

    private static void showsFirst() {
        RindDates x = shelf(" w95 w95 w95 w95 w95 w95");
        Due.row(x, 0, 5, 5, 5, 5);
        Due.is("any", x.shows(0, 1), 4);
        Due.rowIs("rising", x, 1, 0, 1, 2, 3);
        RindDates two = shelf(" w95 w95");
        Due.row(two, 0, 5, 5, 5, 5);
        Due.is("two of four", two.shows(0, 1), 2);
        Due.rowIs("none is least", two, 1, NONE, NONE, 0, 1);
        RindDates y = shelf(" w91 w95");
        Due.row(y, 0, 1, 1);
        Due.is("both", y.shows(0, 1), 2);
        Due.rowIs("the first show has the first", y, 1, 0, 1);
        Due.row(y, 0, 1, 5);
        Due.is("both can have one", y.shows(0, 1), 2);
        Due.rowIs("as only this way", y, 1, 0, 1);
        Due.row(y, 0, 5, 1);
        Due.is("both can have one", y.shows(0, 1), 2);
        Due.rowIs("as only that way", y, 1, 1, 0);
        Due.row(y, 0, 5, 5);
        Due.is("one of both", y.shows(0, 1), 1);
        Due.rowIs("the last show", y, 1, NONE, 1);
    }

    private static void showsBad() {
        RindDates x = shelf(" w90");
        x.row(0, 1);
        for (int r : NO_ROWS) {
            Due.leaves("shows(" + r + ", 0)", x, () -> x.shows(r, 0), BAD);
            Due.leaves("shows(0, " + r + ")", x, () -> x.shows(0, r), BAD);
        }
    }

    private static void showsState() {
        RindDates none = new RindDates();
        none.row(0, 1);
        Due.leaves("shows(0, 0)", none, () -> none.shows(0, 0), STATE);
        Due.leaves("shows(0, 1)", none, () -> none.shows(0, 1), STATE);
    }

    private static void showsNothing() {
        RindDates x = shelf(" w90");
        x.row(0, 1);
        Due.leavesBy("missing at first", x, () -> x.shows(1, 0), NOTHING);
        x.row(1, 1);
        x.tear(1);
        Due.leavesBy("torn", x, () -> x.shows(1, 0), NOTHING);
        Due.is("the other one may be missing", x.shows(0, 1), 1);
    }

    private static void showsSize() {
        RindDates x = shelf(" w90");
        int[] sizes = {5, 6, 40};
        for (int n : sizes) {
            x.row(0, n);
            Due.leavesBy(n + " shows", x, () -> x.shows(0, 1), SIZE);
        }
        x.row(0, 4);
        Due.is("4 shows", x.shows(0, 1), 1);
    }

    private static void showsUnlike() {
        int[] none = {-1, 100, NONE, LEAST, GREATEST};
        for (int v : none) {
            RindDates x = shelf(" w90");
            Due.row(x, 0, v);
            Due.leavesBy(v + " alone", x, () -> x.shows(0, 1), UNLIKE);
            Due.row(x, 0, 0, 99, 0, v);
            Due.leavesBy(v + " last", x, () -> x.shows(0, 0), UNLIKE);
        }
        RindDates well = shelf(" w90");
        Due.row(well, 0, 0, 99);
        Due.is("0 and 99", well.shows(0, 0), 1);
    }

    private static void showsOrder() {
        RindDates none = new RindDates();
        Due.leaves("BAD ahead of STATE", none, () -> none.shows(0, 6), BAD);
        Due.leaves("STATE ahead of NOTHING", none, () -> none.shows(0, 0), STATE);
        Due.row(none, 0, -1, -1, -1, -1, -1);
        Due.leaves("STATE ahead of SIZE", none, () -> none.shows(0, 0), STATE);
        RindDates x = shelf(" w90");
        Due.row(x, 0, -1, -1, -1, -1, -1);
        Due.leaves("BAD ahead of SIZE", x, () -> x.shows(0, -1), BAD);
        Due.leaves("BAD ahead of NOTHING", x, () -> x.shows(1, 6), BAD);
        Due.leavesBy("SIZE ahead of UNLIKE", x, () -> x.shows(0, 0), SIZE);
    }
}
