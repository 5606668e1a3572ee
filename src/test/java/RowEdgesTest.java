/** Boundary cases of promises 1 to 9: a new object, ROWS, TEXTS. */
public final class RowEdgesTest extends Edges {
    public static void main(String[] args) throws IllegalAccessException {
        runAll(RowEdgesTest.class);
    }

    // ---- 1 a new object

    private static void promise01NoRowsTextsJarsMules() {
        NoonJars x = new NoonJars();
        for (int what = 0; what <= 9; what++) {
            due("count(" + what + ")", x.count(what), 0);
        }
        refused(x, "jar(0, 0)", BAD, () -> x.jar(0, 0));
        refused(x, "fill(0)", BAD, () -> x.fill(0));
        refused(x, "carry(0, 1)", BAD, () -> x.carry(0, 1));
        refused(x, "burnt(1, 0)", BAD, () -> x.burnt(1, 0));
        refused(x, "loads()", STATE, () -> x.loads());
        refused(x, "lots(1, 1)", STATE, () -> x.lots(1, 1));
    }

    private static void promise01NoSunNoNeeds() {
        NoonJars x = new NoonJars();
        due("sun(0)", x.sun(0), 0);
        due("sun(999)", x.sun(999), 0);
        for (int p = 0; p <= 4; p++) {
            tells(x, "place(" + p + ", 0)", x.place(p, 0), 1, 0);
        }
        tells(x, "needs(1)", x.needs(1), 0, 0);
        refused(x, "mirror(1, 1)", NONE, () -> x.mirror(1, 1));
    }

    private static void promise01DayZeroAndDaysGoOn() {
        NoonJars x = new NoonJars();
        due("the DAY", x.count(2), 0);
        tells(x, "night() without a LAND", x.night(), 0, 0);
        due("the DAY", x.count(2), 1);
        due("undo()", x.undo(), 5);
        due("the DAY", x.count(2), 0);
    }

    // ---- 2 row

    private static void promise02ARowOfNoneAndOfSixty() {
        NoonJars x = new NoonJars();
        due("row(0, 0)", x.row(0, 0), 0);
        finds(x, "at(0, 0)", BEYOND, () -> x.at(0, 0));
        due("row(5, 60)", x.row(5, 60), 60);
        tells(x, "at(5, 59)", x.at(5, 59), 1, 0);
        finds(x, "at(5, 60)", BEYOND, () -> x.at(5, 60));
    }

    private static void promise02ItsIntsAreZeroThoughItWasThere() {
        NoonJars x = new NoonJars();
        Check.fillRow(x, 0, 7, 8, 9);
        due("row(0, 2)", x.row(0, 2), 2);
        dueRow(x, 0, 0, 0);
        due("row(0, 4)", x.row(0, 4), 4);
        dueRow(x, 0, 0, 0, 0, 0);
    }

    private static void promise02ItsIntsAreZeroThoughItWasTorn() {
        NoonJars x = new NoonJars();
        Check.fillRow(x, 0, 7, 8, 9);
        x.tear(0);
        due("row(0, 3)", x.row(0, 3), 3);
        dueRow(x, 0, 0, 0, 0);
    }

    private static void promise02MoreThanSixtyIsBad() {
        NoonJars x = new NoonJars();
        refused(x, "row(0, 61), missing", BAD, () -> x.row(0, 61));
        Check.fillRow(x, 0, 7);
        refused(x, "row(0, 61), there", BAD, () -> x.row(0, 61));
        refused(x, "row(0, greatest)", BAD, () -> x.row(0, GREATEST));
    }

    private static void promise02FewerThanNoneIsSize() {
        NoonJars x = new NoonJars();
        finds(x, "row(0, -1), missing", SIZE, () -> x.row(0, -1));
        Check.fillRow(x, 0, 7);
        finds(x, "row(0, -1), there", SIZE, () -> x.row(0, -1));
        finds(x, "row(0, least)", SIZE, () -> x.row(0, LEAST));
    }

    private static void promise02RowsAreZeroToFive() {
        NoonJars x = new NoonJars();
        badBeyond(x, "row()", 0, 5, r -> x.row(r, 3));
    }

    // ---- 3 lay

    private static void promise03TheFirstAndTheLastPlace() {
        NoonJars x = new NoonJars();
        x.row(0, 3);
        tells(x, "lay(0, 0, greatest)", x.lay(0, 0, GREATEST), 1, 0);
        tells(x, "lay(0, 0, least): what it was", x.lay(0, 0, LEAST), 1, GREATEST);
        tells(x, "lay(0, 2, -1)", x.lay(0, 2, -1), 1, 0);
        dueRow(x, 0, LEAST, 0, -1);
    }

    private static void promise03Bad() {
        NoonJars x = new NoonJars();
        badBeyond(x, "lay()", 0, 5, r -> x.lay(r, 99, 1));
    }

    private static void promise03Nothing() {
        NoonJars x = new NoonJars();
        finds(x, "lay(0, 0, 1)", NOTHING, () -> x.lay(0, 0, 1));
        finds(x, "lay(5, 99, 1), beyond too", NOTHING, () -> x.lay(5, 99, 1));
    }

    private static void promise03Beyond() {
        NoonJars x = new NoonJars();
        x.row(0, 3);
        for (int i : new int[] {-1, 3, LEAST, GREATEST}) {
            finds(x, "lay(0, " + i + ", 1)", BEYOND, () -> x.lay(0, i, 1));
        }
        x.row(1, 0);
        finds(x, "lay(1, 0, 1) of none", BEYOND, () -> x.lay(1, 0, 1));
    }

    // ---- 4 at

    private static void promise04TheFirstAndTheLastPlace() {
        NoonJars x = new NoonJars();
        Check.fillRow(x, 5, LEAST, 0, GREATEST);
        tells(x, "at(5, 0)", x.at(5, 0), 1, LEAST);
        tells(x, "at(5, 2)", x.at(5, 2), 1, GREATEST);
    }

    private static void promise04Bad() {
        NoonJars x = new NoonJars();
        badBeyond(x, "at()", 0, 5, r -> x.at(r, 99));
    }

    private static void promise04Nothing() {
        NoonJars x = new NoonJars();
        finds(x, "at(0, 0)", NOTHING, () -> x.at(0, 0));
        finds(x, "at(5, 99), beyond too", NOTHING, () -> x.at(5, 99));
    }

    private static void promise04Beyond() {
        NoonJars x = new NoonJars();
        x.row(0, 3);
        for (int i : new int[] {-1, 3, LEAST, GREATEST}) {
            finds(x, "at(0, " + i + ")", BEYOND, () -> x.at(0, i));
        }
        x.row(1, 0);
        finds(x, "at(1, 0) of none", BEYOND, () -> x.at(1, 0));
    }

    // ---- 5 tear

    private static void promise05ARowOfNoneIsTornToo() {
        NoonJars x = new NoonJars();
        x.row(0, 0);
        due("tear(0)", x.tear(0), 1);
        finds(x, "tear(0) again", NOTHING, () -> x.tear(0));
        due("ROWS", x.count(6), 0);
    }

    private static void promise05OtherRowsStay() {
        NoonJars x = new NoonJars();
        for (int r = 0; r < 6; r++) {
            Check.fillRow(x, r, r);
        }
        due("tear(3)", x.tear(3), 1);
        due("ROWS", x.count(6), 5);
        dueRow(x, 2, 2);
        dueRow(x, 4, 4);
        finds(x, "at(3, 0)", NOTHING, () -> x.at(3, 0));
    }

    private static void promise05Bad() {
        NoonJars x = new NoonJars();
        badBeyond(x, "tear()", 0, 5, r -> x.tear(r));
    }

    private static void promise05Nothing() {
        NoonJars x = new NoonJars();
        finds(x, "tear(5)", NOTHING, () -> x.tear(5));
    }

    // ---- 6 copy

    private static NoonJars twoRows() {
        NoonJars x = new NoonJars();
        Check.fillRow(x, 0, 1, 2, 3, 4, 5);
        Check.fillRow(x, 1, 7, 8, 9);
        return x;
    }

    private static void promise06AWholeRow() {
        NoonJars x = twoRows();
        due("copy(1, 0, 0, 2, 3)", x.copy(1, 0, 0, 2, 3), 1);
        dueRow(x, 0, 1, 2, 7, 8, 9);
        dueRow(x, 1, 7, 8, 9);
    }

    private static void promise06SixtyPlaces() {
        NoonJars x = new NoonJars();
        x.row(0, 60);
        x.row(5, 60);
        x.lay(0, 0, 6);
        x.lay(0, 59, 7);
        due("copy(0, 0, 5, 0, 60)", x.copy(0, 0, 5, 0, 60), 1);
        due("at(5, 0)", Check.placeOf(x, 5, 0), 6);
        due("at(5, 59)", Check.placeOf(x, 5, 59), 7);
    }

    private static void promise06FromAndToTheLastRow() {
        NoonJars x = new NoonJars();
        Check.fillRow(x, 5, 3, 4);
        x.row(0, 2);
        due("copy(5, 0, 0, 0, 2)", x.copy(5, 0, 0, 0, 2), 1);
        dueRow(x, 0, 3, 4);
        due("copy(5, 0, 5, 1, 1)", x.copy(5, 0, 5, 1, 1), 1);
        dueRow(x, 5, 3, 3);
    }

    private static void promise06ToItselfOnAsIfTakenAhead() {
        NoonJars x = twoRows();
        due("copy(0, 0, 0, 1, 4)", x.copy(0, 0, 0, 1, 4), 1);
        dueRow(x, 0, 1, 1, 2, 3, 4);
    }

    private static void promise06ToItselfBackAsIfTakenAhead() {
        NoonJars x = twoRows();
        due("copy(0, 1, 0, 0, 4)", x.copy(0, 1, 0, 0, 4), 1);
        dueRow(x, 0, 2, 3, 4, 5, 5);
    }

    private static void promise06NoPlacesFromTheEndsOn() {
        NoonJars x = twoRows();
        due("copy(0, 0, 1, 0, 0)", x.copy(0, 0, 1, 0, 0), 1);
        due("copy(0, 5, 1, 3, 0)", x.copy(0, 5, 1, 3, 0), 1);
        x.row(2, 0);
        due("copy(2, 0, 2, 0, 0)", x.copy(2, 0, 2, 0, 0), 1);
        dueRow(x, 0, 1, 2, 3, 4, 5);
        dueRow(x, 1, 7, 8, 9);
    }

    private static void promise06BadFrom() {
        NoonJars x = twoRows();
        badBeyond(x, "copy() from", 0, 5, r -> x.copy(r, 99, 2, 99, -1));
    }

    private static void promise06BadTo() {
        NoonJars x = twoRows();
        badBeyond(x, "copy() to", 0, 5, r -> x.copy(2, 99, r, 99, -1));
    }

    private static void promise06SizeIsAheadOfNothing() {
        NoonJars x = twoRows();
        finds(x, "copy(2, 0, 3, 0, -1)", SIZE, () -> x.copy(2, 0, 3, 0, -1));
        finds(x, "copy(0, 0, 1, 0, -1)", SIZE, () -> x.copy(0, 0, 1, 0, -1));
        finds(x, "copy(0, 99, 1, 99, least)", SIZE, () -> x.copy(0, 99, 1, 99, LEAST));
    }

    private static void promise06NothingOfEither() {
        NoonJars x = twoRows();
        finds(x, "copy(2, 0, 1, 0, 0)", NOTHING, () -> x.copy(2, 0, 1, 0, 0));
        finds(x, "copy(0, 0, 2, 0, 0)", NOTHING, () -> x.copy(0, 0, 2, 0, 0));
        finds(x, "copy(2, 0, 2, 0, 0)", NOTHING, () -> x.copy(2, 0, 2, 0, 0));
    }

    private static void promise06NothingIsAheadOfBeyond() {
        NoonJars x = twoRows();
        finds(x, "copy(0, 99, 2, 0, 1)", NOTHING, () -> x.copy(0, 99, 2, 0, 1));
        finds(x, "copy(2, 0, 0, 99, 1)", NOTHING, () -> x.copy(2, 0, 0, 99, 1));
    }

    private static void promise06BeyondOneTooManyFrom() {
        NoonJars x = twoRows();
        finds(x, "copy(1, 0, 0, 0, 4)", BEYOND, () -> x.copy(1, 0, 0, 0, 4));
        finds(x, "copy(1, 2, 0, 0, 2)", BEYOND, () -> x.copy(1, 2, 0, 0, 2));
        finds(x, "copy(1, 3, 0, 0, 1)", BEYOND, () -> x.copy(1, 3, 0, 0, 1));
        finds(x, "copy(1, -1, 0, 0, 1)", BEYOND, () -> x.copy(1, -1, 0, 0, 1));
    }

    private static void promise06BeyondOneTooManyTo() {
        NoonJars x = twoRows();
        finds(x, "copy(0, 0, 1, 0, 4)", BEYOND, () -> x.copy(0, 0, 1, 0, 4));
        finds(x, "copy(0, 0, 1, 2, 2)", BEYOND, () -> x.copy(0, 0, 1, 2, 2));
        finds(x, "copy(0, 0, 1, 3, 1)", BEYOND, () -> x.copy(0, 0, 1, 3, 1));
        finds(x, "copy(0, 0, 1, -1, 1)", BEYOND, () -> x.copy(0, 0, 1, -1, 1));
    }

    private static void promise06BeyondByFarWithoutWrappingAround() {
        NoonJars x = twoRows();
        finds(x, "n the greatest", BEYOND, () -> x.copy(0, 1, 1, 1, GREATEST));
        finds(x, "i the greatest", BEYOND, () -> x.copy(0, GREATEST, 1, 0, 1));
        finds(x, "j the greatest", BEYOND, () -> x.copy(0, 0, 1, GREATEST, 1));
        finds(x, "i the least", BEYOND, () -> x.copy(0, LEAST, 1, 0, 1));
        finds(x, "j the least", BEYOND, () -> x.copy(0, 0, 1, LEAST, 1));
        finds(x, "all the greatest", BEYOND, () -> x.copy(0, GREATEST, 1, GREATEST, GREATEST));
        finds(x, "61", BEYOND, () -> x.copy(0, 0, 1, 0, 61));
    }

    private static void promise06BeyondThoughNone() {
        NoonJars x = twoRows();
        finds(x, "copy(0, -1, 1, 0, 0)", BEYOND, () -> x.copy(0, -1, 1, 0, 0));
        finds(x, "copy(0, 6, 1, 0, 0)", BEYOND, () -> x.copy(0, 6, 1, 0, 0));
        finds(x, "copy(0, 0, 1, -1, 0)", BEYOND, () -> x.copy(0, 0, 1, -1, 0));
        finds(x, "copy(0, 0, 1, 4, 0)", BEYOND, () -> x.copy(0, 0, 1, 4, 0));
    }

    // ---- 7 mean

    private static void promise07TheMeanIsCutTowardsNought() {
        NoonJars x = new NoonJars();
        Check.fillRow(x, 0, 1, 1, 0);
        tells(x, "mean() of 2 by 3", x.mean(0), 1, 0);
        Check.fillRow(x, 0, -1, -1, 0);
        tells(x, "mean() of -2 by 3", x.mean(0), 1, 0);
        Check.fillRow(x, 0, -3, -4);
        tells(x, "mean() of -7 by 2", x.mean(0), 1, -3);
        Check.fillRow(x, 0, 3, 4);
        tells(x, "mean() of 7 by 2", x.mean(0), 1, 3);
    }

    private static void promise07TheMeanOfOne() {
        NoonJars x = new NoonJars();
        Check.fillRow(x, 0, LEAST);
        tells(x, "mean() of the least", x.mean(0), 1, LEAST);
        Check.fillRow(x, 0, GREATEST);
        tells(x, "mean() of the greatest", x.mean(0), 1, GREATEST);
    }

    private static void promise07TheSumDoesNotWrapAround() {
        NoonJars x = new NoonJars();
        x.row(0, 60);
        for (int i = 0; i < 60; i++) {
            x.lay(0, i, GREATEST);
        }
        tells(x, "mean() of sixty greatest", x.mean(0), 1, GREATEST);
        x.lay(0, 0, LEAST);
        tells(x, "mean() with a least", x.mean(0), 1, (int) ((59L * GREATEST + LEAST) / 60));
    }

    private static void promise07NoughtOfARowOfNone() {
        NoonJars x = new NoonJars();
        x.row(0, 0);
        finds(x, "mean(0)", NOUGHT, () -> x.mean(0));
    }

    private static void promise07Nothing() {
        NoonJars x = new NoonJars();
        finds(x, "mean(0)", NOTHING, () -> x.mean(0));
    }

    private static void promise07Bad() {
        NoonJars x = new NoonJars();
        badBeyond(x, "mean()", 0, 5, r -> x.mean(r));
    }

    // ---- 8 text

    private static void promise08ATextOfNoneAndOfSixty() {
        NoonJars x = new NoonJars();
        due("text(0, 0)", x.text(0, 0), 0);
        finds(x, "put(0, 0, 1)", BEYOND, () -> x.put(0, 0, 1));
        due("text(3, 60)", x.text(3, 60), 60);
        due("put(3, 0, 1)", x.put(3, 0, 1), 1032);
        due("put(3, 59, 1)", x.put(3, 59, 1), 1032);
        finds(x, "put(3, 60, 1)", BEYOND, () -> x.put(3, 60, 1));
    }

    private static void promise08ItsBytesAreBlanksThoughItWasThere() {
        NoonJars x = new NoonJars();
        Check.write(x, 0, "abc");
        due("text(0, 2)", x.text(0, 2), 2);
        due("text(0, 4)", x.text(0, 4), 4);
        for (int i = 0; i < 4; i++) {
            due("put(0, " + i + ", 0)", x.put(0, i, 0), 1032);
        }
    }

    private static void promise08MoreThanSixtyIsBad() {
        NoonJars x = new NoonJars();
        refused(x, "text(0, 61), missing", BAD, () -> x.text(0, 61));
        Check.write(x, 0, "abc");
        refused(x, "text(0, 61), there", BAD, () -> x.text(0, 61));
        refused(x, "text(0, greatest)", BAD, () -> x.text(0, GREATEST));
    }

    private static void promise08FewerThanNoneIsSize() {
        NoonJars x = new NoonJars();
        finds(x, "text(0, -1), missing", SIZE, () -> x.text(0, -1));
        Check.write(x, 0, "abc");
        finds(x, "text(0, -1), there", SIZE, () -> x.text(0, -1));
        finds(x, "text(0, least)", SIZE, () -> x.text(0, LEAST));
    }

    private static void promise08TextsAreZeroToThree() {
        NoonJars x = new NoonJars();
        badBeyond(x, "text()", 0, 3, t -> x.text(t, 3));
    }

    // ---- 9 put

    private static void duePut(int v, int want) {
        NoonJars x = new NoonJars();
        x.text(0, 1);
        due("put(0, 0, " + v + ")", x.put(0, 0, v), 1032);
        due("what it was behind " + v, x.put(0, 0, 0), want);
    }

    private static void promise09WhatItWasAndAThousandMore() {
        duePut(0, 1000);
        duePut(1, 1001);
        duePut(127, 1127);
        duePut(-1, 999);
        duePut(-128, 872);
    }

    private static void promise09CutToAByte() {
        duePut(128, 1000 - 128);
        duePut(255, 1000 - 1);
        duePut(256, 1000);
        duePut(-129, 1000 + 127);
        duePut(-256, 1000);
        duePut(32 + 256, 1032);
        duePut(GREATEST, 1000 - 1);
        duePut(LEAST, 1000);
    }

    private static void promise09ACutByteIsInTheDigest() {
        NoonJars x = new NoonJars();
        NoonJars y = new NoonJars();
        x.text(0, 1);
        y.text(0, 1);
        x.put(0, 0, 200);
        y.put(0, 0, 200 - 256);
        due("digest()", x.digest(), y.digest());
    }

    private static void promise09Bad() {
        NoonJars x = new NoonJars();
        badBeyond(x, "put()", 0, 3, t -> x.put(t, 99, 1));
    }

    private static void promise09Nothing() {
        NoonJars x = new NoonJars();
        finds(x, "put(0, 0, 1)", NOTHING, () -> x.put(0, 0, 1));
        finds(x, "put(3, 99, 1), beyond too", NOTHING, () -> x.put(3, 99, 1));
    }

    private static void promise09Beyond() {
        NoonJars x = new NoonJars();
        x.text(0, 3);
        for (int i : new int[] {-1, 3, LEAST, GREATEST}) {
            finds(x, "put(0, " + i + ", 1)", BEYOND, () -> x.put(0, i, 1));
        }
        x.text(1, 0);
        finds(x, "put(1, 0, 1) of none", BEYOND, () -> x.put(1, 0, 1));
    }
}
