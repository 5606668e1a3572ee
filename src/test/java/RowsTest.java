/** Promises 1 to 9: a new object, ROWS, TEXTS. */
public final class RowsTest {
    private static final Check CHECK = new Check("RowsTest");

    public static void main(String[] args) {
        newObject();
        rows();
        layAndAt();
        tears();
        copies();
        means();
        texts();
        CHECK.end();
    }

    private static void newObject() {
        NoonJars x = new NoonJars();
        for (int what = 0; what <= 9; what++) {
            CHECK.due(1, "count(" + what + ")", x.count(what), 0);
        }
        CHECK.due(1, "asked()", x.asked(), 0);
        CHECK.due(1, "finding()", x.finding(), 0);
        CHECK.due(1, "sun(0)", x.sun(0), 0);
        CHECK.due(1, "sun(999)", x.sun(999), 0);
        for (int p = 0; p <= 4; p++) {
            for (int what = 0; what <= 3; what++) {
                CHECK.due(1, "place", Check.ofPlace(x, p, what), 0);
            }
        }
        CHECK.due(1, "needs(4)", x.needs(4), 0);
        CHECK.due(1, "undo()", x.undo(), NoonJars.STATE);
    }

    private static void rows() {
        NoonJars x = new NoonJars();
        CHECK.due(2, "row(0, 60)", x.row(0, 60), 60);
        CHECK.due(2, "row(5, 0)", x.row(5, 0), 0);
        CHECK.due(2, "count(6)", x.count(6), 2);
        CHECK.refused(2, x, "row(-1, 3)", NoonJars.BAD, () -> x.row(-1, 3));
        CHECK.refused(2, x, "row(6, 3)", NoonJars.BAD, () -> x.row(6, 3));
        CHECK.refused(2, x, "row(6, -3)", NoonJars.BAD, () -> x.row(6, -3));
        CHECK.refused(2, x, "row(0, 61)", NoonJars.BAD, () -> x.row(0, 61));
        CHECK.finds(2, x, "row(0, -1)", 5, () -> x.row(0, -1));
        CHECK.finds(2, x, "row(0, min)", 5, () -> x.row(0, Integer.MIN_VALUE));
        Check.fillRow(x, 0, 7, 8, 9);
        CHECK.due(2, "row(0, 2) again", x.row(0, 2), 2);
        CHECK.due(2, "at(0, 0)", Check.placeOf(x, 0, 0), 0);
        CHECK.due(2, "at(0, 1)", Check.placeOf(x, 0, 1), 0);
        CHECK.finds(2, x, "at(0, 2)", 2, () -> x.at(0, 2));
    }

    private static void layAndAt() {
        NoonJars x = new NoonJars();
        CHECK.finds(3, x, "lay missing", 1, () -> x.lay(0, 0, 1));
        CHECK.finds(4, x, "at missing", 1, () -> x.at(0, 0));
        CHECK.finds(3, x, "lay missing, beyond", 1, () -> x.lay(0, 99, 1));
        x.row(0, 60);
        CHECK.tells(3, x, "lay(0, 59, 5)", x.lay(0, 59, 5), 1, 0);
        CHECK.tells(3, x, "lay(0, 59, -6)", x.lay(0, 59, -6), 1, 5);
        CHECK.tells(3, x, "lay(0, 0, min)", x.lay(0, 0, Integer.MIN_VALUE), 1, 0);
        CHECK.tells(4, x, "at(0, 59)", x.at(0, 59), 1, -6);
        CHECK.tells(4, x, "at(0, 0)", x.at(0, 0), 1, Integer.MIN_VALUE);
        CHECK.tells(4, x, "at(0, 1)", x.at(0, 1), 1, 0);
        CHECK.finds(3, x, "lay(0, 60, 1)", 2, () -> x.lay(0, 60, 1));
        CHECK.finds(3, x, "lay(0, -1, 1)", 2, () -> x.lay(0, -1, 1));
        CHECK.finds(4, x, "at(0, 60)", 2, () -> x.at(0, 60));
        CHECK.finds(4, x, "at(0, -1)", 2, () -> x.at(0, -1));
        CHECK.refused(3, x, "lay(6, 0, 1)", NoonJars.BAD, () -> x.lay(6, 0, 1));
        CHECK.refused(3, x, "lay(-1, 0, 1)", NoonJars.BAD, () -> x.lay(-1, 0, 1));
        CHECK.refused(4, x, "at(6, 0)", NoonJars.BAD, () -> x.at(6, 0));
        CHECK.refused(4, x, "at(-1, 0)", NoonJars.BAD, () -> x.at(-1, 0));
    }

    private static void tears() {
        NoonJars x = new NoonJars();
        CHECK.finds(5, x, "tear missing", 1, () -> x.tear(5));
        x.row(5, 0);
        CHECK.due(5, "tear(5)", x.tear(5), 1);
        CHECK.due(5, "count(6)", x.count(6), 0);
        CHECK.finds(5, x, "tear again", 1, () -> x.tear(5));
        CHECK.finds(5, x, "at torn", 1, () -> x.at(5, 0));
        CHECK.refused(5, x, "tear(6)", NoonJars.BAD, () -> x.tear(6));
        CHECK.refused(5, x, "tear(-1)", NoonJars.BAD, () -> x.tear(-1));
    }

    private static void copies() {
        NoonJars x = new NoonJars();
        Check.fillRow(x, 0, 1, 2, 3, 4, 5);
        Check.fillRow(x, 1, 9, 9, 9);
        CHECK.due(6, "copy(0, 3, 1, 1, 2)", x.copy(0, 3, 1, 1, 2), 1);
        dueRow(6, x, 1, 9, 4, 5);
        CHECK.due(6, "copy(0, 0, 0, 1, 4)", x.copy(0, 0, 0, 1, 4), 1);
        dueRow(6, x, 0, 1, 1, 2, 3, 4);
        CHECK.due(6, "copy(0, 1, 0, 0, 4)", x.copy(0, 1, 0, 0, 4), 1);
        dueRow(6, x, 0, 1, 2, 3, 4, 4);
        CHECK.due(6, "copy none at the end", x.copy(0, 5, 1, 3, 0), 1);
        CHECK.finds(6, x, "none from below", 2, () -> x.copy(0, -1, 1, 0, 0));
        CHECK.finds(6, x, "none to below", 2, () -> x.copy(0, 0, 1, -1, 0));
        CHECK.finds(6, x, "none from above", 2, () -> x.copy(0, 6, 1, 0, 0));
        CHECK.finds(6, x, "none to above", 2, () -> x.copy(0, 0, 1, 4, 0));
        CHECK.finds(6, x, "too many from", 2, () -> x.copy(0, 4, 1, 0, 2));
        CHECK.finds(6, x, "too many to", 2, () -> x.copy(0, 0, 1, 2, 2));
        CHECK.finds(6, x, "by far too many", 2, () -> x.copy(0, 1, 1, 1, Integer.MAX_VALUE));
        CHECK.finds(6, x, "by far too far", 2, () -> x.copy(0, Integer.MAX_VALUE, 1, 0, 1));
        CHECK.finds(6, x, "missing from", 1, () -> x.copy(2, 99, 1, 0, 1));
        CHECK.finds(6, x, "missing to", 1, () -> x.copy(0, 0, 2, 99, 1));
        CHECK.finds(6, x, "fewer than none", 5, () -> x.copy(2, 99, 3, 99, -1));
        CHECK.refused(6, x, "copy from 6", NoonJars.BAD, () -> x.copy(6, 0, 0, 0, -1));
        CHECK.refused(6, x, "copy to 6", NoonJars.BAD, () -> x.copy(0, 0, 6, 0, -1));
        CHECK.refused(6, x, "copy from -1", NoonJars.BAD, () -> x.copy(-1, 0, 0, 0, 0));
        CHECK.refused(6, x, "copy to -1", NoonJars.BAD, () -> x.copy(0, 0, -1, 0, 0));
    }

    private static void dueRow(int promise, NoonJars x, int r, int... want) {
        for (int i = 0; i < want.length; i++) {
            CHECK.due(promise, "at(" + r + ", " + i + ")", Check.placeOf(x, r, i), want[i]);
        }
        CHECK.due(promise, "size of " + r, x.at(r, want.length), NoonJars.FINDING);
    }

    private static void means() {
        NoonJars x = new NoonJars();
        CHECK.finds(7, x, "mean missing", 1, () -> x.mean(0));
        x.row(0, 0);
        CHECK.finds(7, x, "mean of none", 4, () -> x.mean(0));
        Check.fillRow(x, 0, 1, 2, 2);
        CHECK.tells(7, x, "mean(0)", x.mean(0), 1, 1);
        Check.fillRow(x, 0, -1, -2, -2);
        CHECK.tells(7, x, "mean below 0, cut", x.mean(0), 1, -1);
        Check.fillRow(x, 0, Integer.MAX_VALUE, Integer.MAX_VALUE);
        CHECK.tells(7, x, "mean of greatest", x.mean(0), 1, Integer.MAX_VALUE);
        Check.fillRow(x, 0, Integer.MIN_VALUE, Integer.MIN_VALUE, Integer.MIN_VALUE);
        CHECK.tells(7, x, "mean of least", x.mean(0), 1, Integer.MIN_VALUE);
        CHECK.refused(7, x, "mean(6)", NoonJars.BAD, () -> x.mean(6));
        CHECK.refused(7, x, "mean(-1)", NoonJars.BAD, () -> x.mean(-1));
    }

    private static void texts() {
        NoonJars x = new NoonJars();
        CHECK.finds(9, x, "put missing", 1, () -> x.put(0, 0, 1));
        CHECK.due(8, "text(0, 60)", x.text(0, 60), 60);
        CHECK.due(8, "text(3, 0)", x.text(3, 0), 0);
        CHECK.due(8, "count(7)", x.count(7), 2);
        CHECK.refused(8, x, "text(4, 1)", NoonJars.BAD, () -> x.text(4, 1));
        CHECK.refused(8, x, "text(-1, 1)", NoonJars.BAD, () -> x.text(-1, 1));
        CHECK.refused(8, x, "text(0, 61)", NoonJars.BAD, () -> x.text(0, 61));
        CHECK.finds(8, x, "text(0, -1)", 5, () -> x.text(0, -1));
        CHECK.due(9, "put(0, 59, 127)", x.put(0, 59, 127), 1032);
        CHECK.due(9, "put(0, 59, 128)", x.put(0, 59, 128), 1127);
        CHECK.due(9, "put(0, 59, -129)", x.put(0, 59, -129), 872);
        CHECK.due(9, "put(0, 59, 511)", x.put(0, 59, 511), 1127);
        CHECK.due(9, "put(0, 59, 0)", x.put(0, 59, 0), 999);
        CHECK.due(9, "put(0, 59, 0)", x.put(0, 59, 0), 1000);
        CHECK.finds(9, x, "put(0, 60, 1)", 2, () -> x.put(0, 60, 1));
        CHECK.finds(9, x, "put(0, -1, 1)", 2, () -> x.put(0, -1, 1));
        CHECK.finds(9, x, "put(3, 0, 1)", 2, () -> x.put(3, 0, 1));
        CHECK.refused(9, x, "put(4, 0, 1)", NoonJars.BAD, () -> x.put(4, 0, 1));
        CHECK.refused(9, x, "put(-1, 0, 1)", NoonJars.BAD, () -> x.put(-1, 0, 1));
        CHECK.due(8, "text(0, 60) again", x.text(0, 60), 60);
        CHECK.due(8, "put(0, 59, 1) behind it", x.put(0, 59, 1), 1032);
        CHECK.due(9, "asked() stays", x.asked(), 0);
    }
}
