/** Promises 1 to 7: a new object, row, lay, at, tear, copy, mean. */
public final class RowsTest {
    private static final int BAD = RindDates.BAD;
    private static final int NOTHING = 1, BEYOND = 2, NOUGHT = 4, SIZE = 5;

    public static void main(String[] args) {
        promise1();
        promise2();
        promise3();
        promise4();
        promise5();
        promise6();
        promise7();
        Due.close("RowsTest");
    }

    private static void promise1() {
        RindDates x = new RindDates();
        for (int what = 0; what <= 10; what++) {
            Due.is("new: count(" + what + ")", x.count(what), 0);
        }
        for (int f = 1; f <= 5; f++) {
            Due.is("new: findings(" + f + ")", x.findings(f), 0);
        }
        Due.is("new: finding()", x.finding(), 0);
        Due.is("new: asked()", x.asked(), 0);
        Due.is("new: upper()", x.upper(), 0);
        Due.is("new: lower()", x.lower(), 1);
        for (int r = 0; r <= 5; r++) {
            Due.finds("new: at(" + r + ", 0)", x, x.at(r, 0), NOTHING);
        }
        for (int t = 0; t <= 3; t++) {
            Due.finds("new: fault(" + t + ")", x, x.fault(t), NOTHING);
        }
        RindDates other = new RindDates();
        other.row(0, 3);
        Due.is("objects are apart", x.count(8), 0);
    }

    private static void promise2() {
        RindDates x = new RindDates();
        Due.is("row(0, 40)", x.row(0, 40), 40);
        Due.is("row(5, 0)", x.row(5, 0), 0);
        Due.tells("at(0, 39)", x, x.at(0, 39), 0);
        Due.finds("at(0, 40)", x, x.at(0, 40), BEYOND);
        Due.finds("at(5, 0)", x, x.at(5, 0), BEYOND);
        x.lay(0, 2, 7);
        x.lay(0, 30, 8);
        Due.is("row(0, 41)", x.row(0, 41), BAD);
        Due.is("row(0, max)", x.row(0, Integer.MAX_VALUE), BAD);
        Due.is("row(6, 1)", x.row(6, 1), BAD);
        Due.is("row(-1, 1)", x.row(-1, 1), BAD);
        Due.is("row(6, -1): BAD first", x.row(6, -1), BAD);
        Due.finds("row(0, -1)", x, x.row(0, -1), SIZE);
        Due.finds("row(0, min)", x, x.row(0, Integer.MIN_VALUE), SIZE);
        Due.tells("refused leaves it", x, x.at(0, 2), 7);
        Due.is("row(0, 3)", x.row(0, 3), 3);
        Due.rowIs("row(0, 3) anew", x, 0, 0, 0, 0);
        Due.is("row(0, 40) again", x.row(0, 40), 40);
        Due.tells("row(0, 40) again is 0", x, x.at(0, 30), 0);
        Due.is("two rows", x.count(8), 2);
    }

    private static void promise3() {
        RindDates x = new RindDates();
        x.row(1, 2);
        Due.tells("lay(1, 0, 5)", x, x.lay(1, 0, 5), 0);
        Due.tells("lay(1, 0, min)", x, x.lay(1, 0, Integer.MIN_VALUE), 5);
        Due.tells("lay(1, 0, max)", x, x.lay(1, 0, Integer.MAX_VALUE), Integer.MIN_VALUE);
        Due.tells("lay(1, 1, -9)", x, x.lay(1, 1, -9), 0);
        Due.rowIs("laid", x, 1, Integer.MAX_VALUE, -9);
        Due.is("lay(6, 0, 1)", x.lay(6, 0, 1), BAD);
        Due.is("lay(-1, -1, 1)", x.lay(-1, -1, 1), BAD);
        Due.finds("lay(0, 9, 1)", x, x.lay(0, 9, 1), NOTHING);
        Due.finds("lay(1, 2, 1)", x, x.lay(1, 2, 1), BEYOND);
        Due.finds("lay(1, -1, 1)", x, x.lay(1, -1, 1), BEYOND);
        Due.is("a refusal leaves asked()", x.asked(), -9);
    }

    private static void promise4() {
        RindDates x = new RindDates();
        Due.row(x, 2, 4, -5, 6);
        Due.tells("at(2, 1)", x, x.at(2, 1), -5);
        Due.tells("at(2, 1) again", x, x.at(2, 1), -5);
        Due.is("at(6, 0)", x.at(6, 0), BAD);
        Due.is("at(-1, 0)", x.at(-1, 0), BAD);
        Due.finds("at(3, 0)", x, x.at(3, 0), NOTHING);
        Due.finds("at(2, 3)", x, x.at(2, 3), BEYOND);
        Due.finds("at(2, -1)", x, x.at(2, -1), BEYOND);
        Due.finds("at(2, max)", x, x.at(2, Integer.MAX_VALUE), BEYOND);
        Due.finds("at(2, min)", x, x.at(2, Integer.MIN_VALUE), BEYOND);
    }

    private static void promise5() {
        RindDates x = new RindDates();
        Due.row(x, 3, 1);
        Due.is("tear(3)", x.tear(3), 1);
        Due.is("none there", x.count(8), 0);
        Due.finds("tear(3) again", x, x.tear(3), NOTHING);
        Due.finds("at(3, 0)", x, x.at(3, 0), NOTHING);
        Due.is("tear(6)", x.tear(6), BAD);
        Due.is("tear(-1)", x.tear(-1), BAD);
    }

    private static void promise6() {
        RindDates x = new RindDates();
        Due.row(x, 0, 1, 2, 3, 4, 5);
        Due.row(x, 1, 9, 9, 9);
        Due.is("copy to another", x.copy(0, 1, 1, 0, 3), 1);
        Due.rowIs("copied", x, 1, 2, 3, 4);
        Due.rowIs("the other stays", x, 0, 1, 2, 3, 4, 5);
        Due.is("copy up within itself", x.copy(0, 0, 0, 1, 4), 1);
        Due.rowIs("copied up", x, 0, 1, 1, 2, 3, 4);
        Due.is("copy down within itself", x.copy(0, 2, 0, 0, 3), 1);
        Due.rowIs("copied down", x, 0, 2, 3, 4, 3, 4);
        Due.is("none, at both ends", x.copy(0, 5, 1, 3, 0), 1);
        Due.is("copy(6, ..)", x.copy(6, 0, 0, 0, -1), BAD);
        Due.is("copy(.., -1, ..)", x.copy(0, 0, -1, 0, -1), BAD);
        Due.finds("SIZE ahead of NOTHING", x, x.copy(2, 0, 0, 0, -1), SIZE);
        Due.finds("NOTHING of the first", x, x.copy(2, -1, 0, 0, 1), NOTHING);
        Due.finds("NOTHING of the second", x, x.copy(0, -1, 2, 0, 1), NOTHING);
        Due.finds("BEYOND i", x, x.copy(0, 3, 1, 0, 3), BEYOND);
        Due.finds("BEYOND j", x, x.copy(0, 0, 1, 1, 3), BEYOND);
        Due.finds("BEYOND i below 0, none", x, x.copy(0, -1, 1, 0, 0), BEYOND);
        Due.finds("BEYOND j below 0, none", x, x.copy(0, 0, 1, -1, 0), BEYOND);
        Due.finds("BEYOND i above, none", x, x.copy(0, 6, 1, 0, 0), BEYOND);
        Due.finds("BEYOND j above, none", x, x.copy(0, 0, 1, 4, 0), BEYOND);
        Due.finds("BEYOND by many", x, x.copy(0, 1, 1, 1, Integer.MAX_VALUE), BEYOND);
        Due.finds("BEYOND by far", x, x.copy(0, Integer.MAX_VALUE, 1, 0, 1), BEYOND);
        Due.rowIs("refused leaves them", x, 1, 2, 3, 4);
    }

    private static void promise7() {
        RindDates x = new RindDates();
        Due.row(x, 0, 1, 2, 5);
        Due.tells("mean, cut", x, x.mean(0), 2);
        Due.row(x, 1, -1, -2, -5);
        Due.tells("mean below 0, cut", x, x.mean(1), -2);
        Due.row(x, 2, Integer.MAX_VALUE, Integer.MAX_VALUE, Integer.MAX_VALUE);
        Due.tells("mean of great ones", x, x.mean(2), Integer.MAX_VALUE);
        x.row(3, 0);
        Due.finds("mean of none", x, x.mean(3), NOUGHT);
        Due.finds("mean of what is missing", x, x.mean(4), NOTHING);
        Due.is("mean(6)", x.mean(6), BAD);
        Due.is("mean(-1)", x.mean(-1), BAD);
        Due.is("a refusal leaves asked()", x.asked(), Integer.MAX_VALUE);
    }
}
