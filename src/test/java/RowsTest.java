/** Promises 1 to 9: a new object, ROWS, TEXTS. */
public final class RowsTest {
    private static final int BAD = DearLetters.BAD;

    public static void main(String[] args) {
        promise1();
        promise2();
        promise3();
        promise4();
        promise5();
        promise6();
        promise7();
        promise8();
        promise9();
        Due.end("RowsTest");
    }

    private static void promise1() {
        DearLetters x = new DearLetters();
        for (int what = 0; what <= 8; what++) {
            Due.is("new: count " + what, x.count(what), 0);
        }
        for (int r = 0; r < 6; r++) {
            int row = r;
            Due.finding("new: tear " + r, x, () -> x.tear(row), Due.NOTHING);
        }
        for (int t = 0; t < 4; t++) {
            int text = t;
            Due.finding("new: fault " + t, x, () -> x.fault(text), Due.NOTHING);
        }
        DearLetters y = new DearLetters();
        Due.is("new: asked", y.asked(), 0);
        Due.is("new: finding", y.finding(), 0);
        Due.is("new: upper", y.upper(), 0);
        Due.is("new: lower", y.lower(), 1);
        Due.is("new: no BEARER", y.bearer(0, 0), BAD);
        Due.is("new: no LETTER", y.where(0), DearLetters.FINDING);
    }

    private static void promise2() {
        DearLetters x = new DearLetters();
        Due.is("row 0", x.row(0, 0), 0);
        Due.is("row 40", x.row(5, 40), 40);
        Due.is("two rows", x.count(6), 2);
        Due.refused("row -1", x, () -> x.row(-1, 1), BAD);
        Due.refused("row 6", x, () -> x.row(6, 1), BAD);
        Due.refused("row of 41", x, () -> x.row(1, 41), BAD);
        Due.refused("row of most", x, () -> x.row(1, Integer.MAX_VALUE), BAD);
        Due.refused("BAD ahead of SIZE", x, () -> x.row(6, -1), BAD);
        Due.finding("row of -1", x, () -> x.row(1, -1), Due.SIZE);
        Due.finding("row of least", x, () -> x.row(5, Integer.MIN_VALUE), Due.SIZE);
        Due.fill(x, 1, 7, 8, 9);
        Due.is("row anew", x.row(1, 2), 2);
        Due.rowIs("row anew", x, 1, 0, 0);
        Due.is("row longer", x.row(1, 3), 3);
        Due.rowIs("row longer", x, 1, 0, 0, 0);
    }

    private static void promise3() {
        DearLetters x = new DearLetters();
        x.row(2, 2);
        Due.told("lay", x, x.lay(2, 1, -5), 1, 0);
        Due.told("lay again", x, x.lay(2, 1, Integer.MAX_VALUE), 1, -5);
        Due.told("lay a third time", x, x.lay(2, 1, 3), 1, Integer.MAX_VALUE);
        Due.rowIs("laid", x, 2, 0, 3);
        Due.refused("lay in row -1", x, () -> x.lay(-1, 0, 1), BAD);
        Due.refused("lay in row 6", x, () -> x.lay(6, 0, 1), BAD);
        Due.finding("lay in none", x, () -> x.lay(0, 0, 1), Due.NOTHING);
        Due.finding("NOTHING ahead of BEYOND", x, () -> x.lay(0, -1, 1), Due.NOTHING);
        Due.finding("lay behind", x, () -> x.lay(2, 2, 1), Due.BEYOND);
        Due.finding("lay ahead", x, () -> x.lay(2, -1, 1), Due.BEYOND);
    }

    private static void promise4() {
        DearLetters x = new DearLetters();
        Due.fill(x, 3, 4, -6);
        Due.told("at 0", x, x.at(3, 0), 1, 4);
        Due.told("at 1", x, x.at(3, 1), 1, -6);
        Due.refused("at in row 6", x, () -> x.at(6, 0), BAD);
        Due.refused("at in row -1", x, () -> x.at(-1, 0), BAD);
        Due.finding("at in none", x, () -> x.at(0, 0), Due.NOTHING);
        Due.finding("at behind", x, () -> x.at(3, 2), Due.BEYOND);
        Due.finding("at ahead", x, () -> x.at(3, -1), Due.BEYOND);
        Due.finding("at far", x, () -> x.at(3, Integer.MAX_VALUE), Due.BEYOND);
    }

    private static void promise5() {
        DearLetters x = new DearLetters();
        x.row(4, 3);
        Due.is("tear", x.tear(4), 1);
        Due.is("torn", x.count(6), 0);
        Due.finding("tear again", x, () -> x.tear(4), Due.NOTHING);
        Due.refused("tear -1", x, () -> x.tear(-1), BAD);
        Due.refused("tear 6", x, () -> x.tear(6), BAD);
    }

    private static void promise6() {
        DearLetters x = new DearLetters();
        Due.fill(x, 0, 1, 2, 3, 4, 5);
        Due.fill(x, 1, 9, 9, 9);
        Due.is("copy", x.copy(0, 1, 1, 0, 2), 1);
        Due.rowIs("copied", x, 1, 2, 3, 9);
        Due.is("copy onward in itself", x.copy(0, 0, 0, 1, 4), 1);
        Due.rowIs("copied onward", x, 0, 1, 1, 2, 3, 4);
        Due.is("copy back in itself", x.copy(0, 2, 0, 0, 3), 1);
        Due.rowIs("copied back", x, 0, 2, 3, 4, 3, 4);
        Due.is("copy none at the ends", x.copy(0, 5, 1, 3, 0), 1);
        Due.refused("copy from -1", x, () -> x.copy(-1, 0, 1, 0, 1), BAD);
        Due.refused("copy to 6", x, () -> x.copy(0, 0, 6, 0, 1), BAD);
        Due.refused("BAD ahead of SIZE", x, () -> x.copy(0, 0, 6, 0, -1), BAD);
        Due.finding("copy fewer than none", x, () -> x.copy(0, 0, 1, 0, -1), Due.SIZE);
        Due.finding("SIZE ahead of NOTHING", x, () -> x.copy(0, 0, 2, 0, -1), Due.SIZE);
        Due.finding("copy from none", x, () -> x.copy(2, 0, 1, 0, 1), Due.NOTHING);
        Due.finding("copy to none", x, () -> x.copy(0, 0, 2, 0, 1), Due.NOTHING);
        Due.finding("NOTHING ahead of BEYOND", x, () -> x.copy(0, 9, 2, 0, 1), Due.NOTHING);
        Due.finding("copy too many from", x, () -> x.copy(0, 4, 1, 0, 2), Due.BEYOND);
        Due.finding("copy too many to", x, () -> x.copy(0, 0, 1, 2, 2), Due.BEYOND);
        Due.finding("copy from ahead", x, () -> x.copy(0, -1, 1, 0, 1), Due.BEYOND);
        Due.finding("copy to ahead", x, () -> x.copy(0, 0, 1, -1, 1), Due.BEYOND);
        Due.finding("copy none from behind", x, () -> x.copy(0, 6, 1, 0, 0), Due.BEYOND);
        Due.finding("copy most", x, () -> x.copy(0, 1, 1, 1, Integer.MAX_VALUE), Due.BEYOND);
        Due.finding("copy from most", x, () -> x.copy(0, Integer.MAX_VALUE, 1, 0, 2), Due.BEYOND);
    }

    private static void promise7() {
        DearLetters x = new DearLetters();
        Due.fill(x, 0, 3, 4);
        Due.told("mean", x, x.mean(0), 1, 3);
        Due.fill(x, 0, -3, -4);
        Due.told("mean below 0 is cut towards it", x, x.mean(0), 1, -3);
        Due.fill(x, 0, Integer.MAX_VALUE, Integer.MAX_VALUE, Integer.MAX_VALUE);
        Due.told("mean of the most", x, x.mean(0), 1, Integer.MAX_VALUE);
        Due.fill(x, 0, Integer.MIN_VALUE, Integer.MIN_VALUE);
        Due.told("mean of the least", x, x.mean(0), 1, Integer.MIN_VALUE);
        x.row(1, 0);
        Due.finding("mean of no ints", x, () -> x.mean(1), Due.NOUGHT);
        Due.finding("mean of none", x, () -> x.mean(2), Due.NOTHING);
        Due.refused("mean of -1", x, () -> x.mean(-1), BAD);
        Due.refused("mean of 6", x, () -> x.mean(6), BAD);
    }

    private static void promise8() {
        DearLetters x = new DearLetters();
        Due.is("text 0", x.text(0, 0), 0);
        Due.is("text 80", x.text(3, 80), 80);
        Due.is("two texts", x.count(7), 2);
        Due.is("blanks", x.put(3, 79, 'x'), 1032);
        Due.is("text anew", x.text(3, 80), 80);
        Due.is("blanks anew", x.put(3, 79, 'x'), 1032);
        Due.refused("text -1", x, () -> x.text(-1, 1), BAD);
        Due.refused("text 4", x, () -> x.text(4, 1), BAD);
        Due.refused("text of 81", x, () -> x.text(0, 81), BAD);
        Due.refused("BAD ahead of SIZE", x, () -> x.text(4, -1), BAD);
        Due.finding("text of -1", x, () -> x.text(0, -1), Due.SIZE);
    }

    private static void promise9() {
        DearLetters x = new DearLetters();
        x.text(1, 2);
        Due.is("put", x.put(1, 0, 200), 1032);
        Due.is("a byte is -128 .. 127", x.put(1, 0, 128), 1000 - 56);
        Due.is("the least byte", x.put(1, 0, 255), 1000 - 128);
        Due.is("-1", x.put(1, 0, 256 + 65), 999);
        Due.is("cut", x.put(1, 0, -1), 1065);
        Due.is("the other is as it was", x.put(1, 1, 0), 1032);
        Due.refused("put in -1", x, () -> x.put(-1, 0, 1), BAD);
        Due.refused("put in 4", x, () -> x.put(4, 0, 1), BAD);
        Due.finding("put in none", x, () -> x.put(0, 0, 1), Due.NOTHING);
        Due.finding("put behind", x, () -> x.put(1, 2, 1), Due.BEYOND);
        Due.finding("put ahead", x, () -> x.put(1, -1, 1), Due.BEYOND);
    }
}
