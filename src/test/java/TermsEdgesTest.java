/** Boundary cases of 'What it is' and 'Terms'. */
public final class TermsEdgesTest extends Edges {
    private static final String KINDS = "jcedlu";

    public static void main(String[] args) throws IllegalAccessException {
        runAll(TermsEdgesTest.class);
    }

    // ---- what is refused

    private static void promise00BadIsAheadOfFull() {
        NoonJars x = Check.land("y1s1v0000j5");
        for (int i = 0; i < 8; i++) {
            x.burnt(1, 5);
        }
        refused(x, "burnt(0, 5) of a ninth", BAD, () -> x.burnt(0, 5));
        refused(x, "burnt(1, 121) of a ninth", BAD, () -> x.burnt(1, 121));
        refused(x, "burnt(1, 5) of a ninth", FULL, () -> x.burnt(1, 5));
    }

    private static void promise00BadIsAheadOfState() {
        NoonJars x = Check.land("y1s0v0000");
        refused(x, "keep(3) without JARS", BAD, () -> x.keep(3));
        refused(x, "best(5) without JARS", BAD, () -> x.best(5));
        refused(x, "lots(41, 1) without JARS", BAD, () -> x.lots(41, 1));
        refused(x, "lots(1, 0) without JARS", BAD, () -> x.lots(1, 0));
        refused(x, "fill(0) without JARS, without SUN", BAD, () -> x.fill(0));
        refused(x, "land(4)", BAD, () -> x.land(4));
    }

    private static void promise00BadIsAheadOfStateOfDeeds() {
        NoonJars x = Check.land("y1s0v0000l5l5");
        x.carry(0, 1);
        refused(x, "fill(2) without SUN", BAD, () -> x.fill(2));
        refused(x, "carry(1, 2) without a MULE", BAD, () -> x.carry(1, 2));
        refused(x, "carry(2, 1) without a MULE", BAD, () -> x.carry(2, 1));
        refused(x, "pour(0, 0), empty", BAD, () -> x.pour(0, 0));
        refused(x, "pour(0, 2), empty", BAD, () -> x.pour(0, 2));
        refused(x, "spend(0, 21), empty", BAD, () -> x.spend(0, 21));
        refused(x, "steal(0, 21), LIDDED", BAD, () -> x.steal(0, 21));
    }

    private static void promise00BadIsAheadOfSpent() {
        NoonJars x = Check.land("y1s1v0000j5j5j5j5");
        refused(x, "pours(0, 21) of four", BAD, () -> x.pours(0, 21));
        refused(x, "way(0, 5, 6) of four", BAD, () -> x.way(0, 5, 6));
        refused(x, "loss(0, 21) of four", BAD, () -> x.loss(0, 21));
        refused(x, "most(4) of four", BAD, () -> x.most(4));
    }

    private static void promise00BadIsAheadOfFindings() {
        NoonJars x = Check.land("y1s1v0000j5");
        refused(x, "row(6, -1)", BAD, () -> x.row(6, -1));
        refused(x, "text(4, -1)", BAD, () -> x.text(4, -1));
        refused(x, "copy(6, 0, 0, 0, -1)", BAD, () -> x.copy(6, 0, 0, 0, -1));
        refused(x, "copy(0, 0, 6, 0, -1)", BAD, () -> x.copy(0, 0, 6, 0, -1));
        refused(x, "mark(0, 6) of another KIND", BAD, () -> x.mark(0, 6));
        refused(x, "on(3)", BAD, () -> x.on(3));
    }

    private static void promise00BadIsAheadOfWhatARowFinds() {
        NoonJars x = Check.land("y1s1v0000j5");
        refused(x, "theft(0, 6) of a missing ROW", BAD, () -> x.theft(0, 6));
        refused(x, "seats(100, 0, 1) of a missing ROW", BAD, () -> x.seats(100, 0, 1));
        refused(x, "seats(1, 0, 6) of a missing ROW", BAD, () -> x.seats(1, 0, 6));
        x.row(0, 0);
        refused(x, "theft(0, 6) of no posts", BAD, () -> x.theft(0, 6));
        refused(x, "seats(-1, 0, 1) of no seats", BAD, () -> x.seats(-1, 0, 1));
    }

    private static void promise00StateIsAheadOfNought() {
        NoonJars x = Check.land("y1s1v0000");
        refused(x, "sure() without JARS", STATE, () -> x.sure());
        refused(x, "test() without JARS", STATE, () -> x.test());
    }

    private static void promise00SpentIsAheadOfNone() {
        NoonJars x = Check.land("y1s1v0000j5j5j5j5");
        refused(x, "pours(0, 20) of four", SPENT, () -> x.pours(0, 20));
        refused(x, "way(0, 20, 0) of four", SPENT, () -> x.way(0, 20, 0));
        refused(x, "loss(0, 20) of four", SPENT, () -> x.loss(0, 20));
    }

    private static void promise00ARowStaysWhereThereIsNone() {
        NoonJars x = Check.land("y1s1v0000j5j5");
        Check.fillRow(x, 2, 7, 8, 9);
        refused(x, "way(0, 5, 2)", NONE, () -> x.way(0, 5, 2));
        dueRow(x, 2, 7, 8, 9);
        refused(x, "way(0, 5, 3) to a missing ROW", NONE, () -> x.way(0, 5, 3));
        finds(x, "at(3, 0): still missing", NOTHING, () -> x.at(3, 0));
    }

    private static void promise00ARowStaysWhenRefused() {
        NoonJars x = Check.land("y1s1v0000j5j5j5j5");
        Check.fillRow(x, 2, 7, 8, 9);
        Check.fillRow(x, 3, 0, 0);
        refused(x, "way(0, 0, 2) of four", SPENT, () -> x.way(0, 0, 2));
        finds(x, "seats(5, 3, 2)", NOUGHT, () -> x.seats(5, 3, 2));
        finds(x, "row(2, -1)", SIZE, () -> x.row(2, -1));
        refused(x, "row(2, 61)", BAD, () -> x.row(2, 61));
        dueRow(x, 2, 7, 8, 9);
    }

    private static void promise00WhatIsRefusedIsNoDeed() {
        NoonJars x = Check.land("y1s10v0000j5l5");
        x.fill(0);
        x.carry(0, 1);
        x.fill(0);
        x.carry(1, 1);
        x.pour(0, 1);
        x.spend(0, 6);
        x.steal(1, 1);
        due("DEEDS", x.count(8), 2);
        due("undo()", x.undo(), 1);
        due("undo()", x.undo(), 0);
    }

    /** What digest() does not tell of a LAND stays, too: SUNS, what is kept, the DEEDS themselves. */
    private static void promise00ARefusedLandChangesNothing() {
        NoonJars x = Check.land("y3s011v1234j5c9");
        x.night();
        x.fill(1);
        x.keep(0);
        x.night();
        Check.write(x, 1, "y6s100v9999e20e20e20x");
        refused(x, "land(1) with a FAULT", STATE, () -> x.land(1));
        due("fault(1)", x.fault(1), 20);
        int[] suns = {0, 1, 1, 0};
        for (int day = 0; day < 4; day++) {
            due("sun(" + day + ")", x.sun(day), suns[day]);
        }
        due("brings(1, 1)", x.brings(1, 1), 7);
        due("undo()", x.undo(), 5);
        due("undo()", x.undo(), 0);
        due("on(0)", x.on(0), 1);
        due("LIGHT", x.count(1), 9);
    }

    private static void promise00NothingIsARowATextAKeptLand() {
        NoonJars x = Check.land("y1s1v0000j5");
        finds(x, "tear(0)", NOTHING, () -> x.tear(0));
        finds(x, "fault(1)", NOTHING, () -> x.fault(1));
        finds(x, "on(0)", NOTHING, () -> x.on(0));
    }

    private static void promise00UnlikeIsAJarOrANumber() {
        NoonJars x = Check.land("y1s1v0000j5");
        finds(x, "mark(0, 1)", UNLIKE, () -> x.mark(0, 1));
        Check.fillRow(x, 0, 20, 21);
        finds(x, "theft(0, 0)", UNLIKE, () -> x.theft(0, 0));
        Check.fillRow(x, 0, 20, 100);
        finds(x, "seats(1, 0, 1)", UNLIKE, () -> x.seats(1, 0, 1));
    }

    private static void promise00NoughtIsSharedAmongNoneOrCantBe() {
        NoonJars x = Check.land("y1s1v0000j5");
        x.row(0, 0);
        finds(x, "mean(0)", NOUGHT, () -> x.mean(0));
        x.row(1, 1);
        finds(x, "seats(1, 1, 2)", NOUGHT, () -> x.seats(1, 1, 2));
        x.burnt(1, 99);
        finds(x, "sure()", NOUGHT, () -> x.sure());
        finds(x, "test()", NOUGHT, () -> x.test());
    }

    private static void promise00SizeIsFewerThanNoneOrNotAsManyAsDue() {
        NoonJars x = new NoonJars();
        finds(x, "row(0, -1)", SIZE, () -> x.row(0, -1));
        finds(x, "text(0, -1)", SIZE, () -> x.text(0, -1));
        finds(x, "copy(0, 0, 1, 0, -1)", SIZE, () -> x.copy(0, 0, 1, 0, -1));
        x.row(0, 1);
        finds(x, "theft(0, 0)", SIZE, () -> x.theft(0, 0));
        x.row(0, 7);
        finds(x, "seats(1, 0, 1)", SIZE, () -> x.seats(1, 0, 1));
    }

    private static void promise00SetsAreToldByBits() {
        NoonJars x = Check.land("y1s1v0000j2j2j2j2j2j2");
        for (int k = 0; k < 6; k++) {
            due("burnt(" + (1 << k) + ")", x.burnt(1 << k, k == 5 ? 1 : 2), k);
        }
        tells(x, "mixed()", x.mixed(), 1, 32);
        tells(x, "sure()", x.sure(), 32, 31);
    }

    // ---- 1 rows, texts, places, kinds

    private static void promise00RowsAndTextsAreMissingAtFirst() {
        NoonJars x = new NoonJars();
        for (int r = 0; r < 6; r++) {
            int one = r;
            finds(x, "at(" + r + ", 0)", NOTHING, () -> x.at(one, 0));
        }
        for (int t = 0; t < 4; t++) {
            int one = t;
            finds(x, "put(" + t + ", 0, 0)", NOTHING, () -> x.put(one, 0, 0));
        }
    }

    private static void promise00RowsHoldZeroToSixtyInts() {
        NoonJars x = new NoonJars();
        for (int r = 0; r < 6; r++) {
            due("row(" + r + ", 60)", x.row(r, 60), 60);
            tells(x, "lay(" + r + ", 59, " + (100 + r) + ")", x.lay(r, 59, 100 + r), 1, 0);
        }
        for (int r = 0; r < 6; r++) {
            tells(x, "at(" + r + ", 59)", x.at(r, 59), 1, 100 + r);
            due("row(" + r + ", 0)", x.row(r, 0), 0);
        }
        due("ROWS", x.count(6), 6);
    }

    private static void promise00TextsHoldZeroToSixtyBytes() {
        NoonJars x = new NoonJars();
        for (int t = 0; t < 4; t++) {
            due("text(" + t + ", 60)", x.text(t, 60), 60);
            due("put(" + t + ", 59, " + (50 + t) + ")", x.put(t, 59, 50 + t), 1032);
        }
        for (int t = 0; t < 4; t++) {
            due("put(" + t + ", 59, 0)", x.put(t, 59, 0), 1050 + t);
            due("text(" + t + ", 0)", x.text(t, 0), 0);
        }
        due("TEXTS", x.count(7), 4);
    }

    private static void promise00ALidIsASealAndDuskIsDawn() {
        NoonJars x = Check.land("y6s1v0000j20c20e20d20l20u20");
        boolean[][] is = {
            {false, false, false, false, false}, {true, false, false, false, false}, {false, true, false, false, false},
            {false, false, true, false, false}, {false, true, false, true, false}, {false, false, true, false, true}};
        for (int k = 0; k < 6; k++) {
            for (int kind = 1; kind <= 5; kind++) {
                int before = x.findings(UNLIKE);
                x.mark(k, kind);
                due("UNLIKE of mark(" + k + ", " + kind + ")", x.findings(UNLIKE) - before, is[k][kind - 1] ? 0 : 1);
            }
        }
    }

    private static void promise00AllJarsAreEmptyOnTheMountainAtFirst() {
        NoonJars x = Check.land("y6s1v0000j1c2e3d4l5u6");
        for (int k = 0; k < 6; k++) {
            due("LIGHT", Check.ofJar(x, k, 2), 0);
            due("PLACE", Check.ofJar(x, k, 3), 0);
        }
    }

    // ---- leaking, hours, pouring

    private static int leakDue(int kind, int light) {
        int tenths = kind == 1 ? 2 : kind == 2 || kind == 4 ? 0 : 1;
        int leak = 0;
        while (10 * leak < tenths * light) {
            leak++;
        }
        return leak;
    }

    private static void promise00OfEachLightEachKindLeaks() {
        for (int kind = 0; kind < 6; kind++) {
            for (int light = kind == 4 ? 20 : 0; light <= 20; light++) {
                NoonJars x = holding(KINDS.charAt(kind), 20, light);
                due("night() of " + KINDS.charAt(kind) + " with " + light, x.night(), leakDue(kind, light));
                due("LIGHT behind it", x.count(1), light - leakDue(kind, light));
            }
        }
    }

    private static void promise00OneLeaksWhollyAndNothingLeaksNothing() {
        for (char letter : new char[] {'j', 'c', 'd', 'u'}) {
            NoonJars x = holding(letter, 1, 1);
            due("night() of 1", x.night(), 1);
            due("night() of 0", x.night(), 0);
        }
    }

    private static void promise00ASealLeaksAsAJarOncePouredFrom() {
        NoonJars x = Check.land("y6s1v0000e20l1");
        x.fill(0);
        due("night(), not OPENED", x.night(), 0);
        due("pour(0, 1)", x.pour(0, 1), 1);
        due("night(), OPENED with 18", x.night(), 2);
    }

    private static void promise00ASealLeaksAsAJarOncePouredInto() {
        NoonJars x = Check.land("y6s1v0000e20l20");
        x.fill(1);
        x.pour(1, 0);
        due("night(), never filled, OPENED with 18", x.night(), 2);
        x.fill(0);
        due("night(), filled again", x.night(), 0);
    }

    private static void promise00ASealLeaksAsAJarOnceSpentFrom() {
        NoonJars x = holding('e', 20, 20);
        x.spend(0, 1);
        due("night(), OPENED with 19", x.night(), 2);
        due("fill(0)", x.fill(0), 3);
        due("night(), filled again", x.night(), 0);
    }

    private static void promise00ASealDoesNotLeakByWhatDoesNotOpenIt() {
        NoonJars x = holding('e', 20, 20);
        x.steal(0, 5);
        x.carry(0, 1);
        x.spend(0, 20);
        x.pour(0, 0);
        due("night(), stolen from, carried, refused", x.night(), 0);
    }

    private static void promise00ALidDoesNotLeakThoughOpened() {
        NoonJars x = Check.land("y6s1v0000l20l20");
        x.fill(0);
        x.spend(0, 1);
        x.pour(0, 1);
        due("OPENED", Check.ofJar(x, 0, 4) + Check.ofJar(x, 1, 4), 2);
        due("night()", x.night(), 0);
    }

    private static void promise00AnHourSpendsOneOrTwoOrThree() {
        int[] anHour = {1, 1, 1, 2, 1, 3};
        for (int kind = 0; kind < 6; kind++) {
            for (int size = 1; size <= 20; size++) {
                NoonJars x = holding(KINDS.charAt(kind), size, size);
                int hours = size / anHour[kind];
                due("spend() of an HOUR too many", x.spend(0, hours + 1), hours == 20 ? BAD : STATE);
                if (hours > 0) {
                    due("spend() of all HOURS", x.spend(0, hours), size - hours * anHour[kind]);
                }
            }
        }
    }

    /** All that is held by all room, against the words: the most of which what comes over has room. */
    private static void promise00ThePouringsOfAllLightToAllRoom() {
        for (int light = 1; light <= 20; light++) {
            for (int room = 0; room <= 20; room++) {
                duePouring(light, room);
            }
        }
    }

    private static void duePouring(int light, int room) {
        int taken = 0;
        for (int n = 1; n <= light; n++) {
            taken = n - (n + 9) / 10 <= room ? n : taken;
        }
        int over = taken - (taken + 9) / 10;
        NoonJars x = Check.land("y6s1v0000j" + light + "j20");
        x.fill(0);
        x.fill(1);
        if (room > 0) {
            x.steal(1, room);
        }
        String call = "pour() of " + light + " into room " + room;
        if (over == 0) {
            refused(x, call, STATE, () -> x.pour(0, 1));
            return;
        }
        tells(x, call, x.pour(0, 1), over, taken - over);
        due("LIGHT left behind " + call, Check.ofJar(x, 0, 2), light - taken);
        due("LIGHT come by " + call, Check.ofJar(x, 1, 2), 20 - room + over);
    }

    // ---- 2 days, mules, nights, what is brought, deeds

    private static void promise00TheSunIsByTheDayModuloTheFigures() {
        NoonJars one = Check.land("y1s1v0000");
        NoonJars eight = Check.land("y1s00000001v0000");
        for (int day : new int[] {0, 6, 7, 8, 14, 15, 16, 998, 999}) {
            due("sun(" + day + ") of one figure", one.sun(day), 1);
            due("sun(" + day + ") of eight", eight.sun(day), day % 8 == 7 ? 1 : 0);
        }
    }

    private static void promise00TheSunWrapsAroundForFillToo() {
        NoonJars x = Check.land("y1s001v0000j3");
        int[] want = {STATE, STATE, 3, STATE, STATE, 3};
        for (int day = 0; day < 6; day++) {
            due("fill(0) on DAY " + day, x.fill(0), want[day]);
            x.night();
        }
    }

    private static void promise00EachMuleCarriesOnceADay() {
        for (int mules = 1; mules <= 6; mules++) {
            NoonJars x = Check.land("y" + mules + "s1v0000j1");
            for (int i = 0; i < mules; i++) {
                due("carry " + i + " of " + mules, x.carry(0, 1 - i % 2), 1 - i % 2);
            }
            int to = 1 - mules % 2;
            refused(x, "carry " + mules + " of " + mules, STATE, () -> x.carry(0, to));
            x.night();
            due("carry on the next DAY", x.carry(0, to), to);
        }
    }

    private static void promise00AValleyIsDarkByFewerHoursThanItsNeed() {
        for (int spent = 0; spent <= 4; spent++) {
            NoonJars x = Check.land("y1s1v3000j9");
            x.fill(0);
            x.carry(0, 1);
            if (spent > 0) {
                x.spend(0, spent);
            }
            x.night();
            due("DARK by " + spent + " of 3", x.asked(), spent < 3 ? 1 : 0);
            due("DAYS that it was DARK", Check.ofPlace(x, 1, 2), spent < 3 ? 1 : 0);
        }
    }

    private static void promise00AValleyWithoutNeedIsNeverDark() {
        NoonJars x = Check.land("y1s1v0000j9");
        nights(x, 3);
        due("VALLEYS that were DARK", x.asked(), 0);
        for (int p = 0; p < 5; p++) {
            due("DAYS that it was DARK", Check.ofPlace(x, p, 2), 0);
        }
    }

    private static void promise00HoursOfTheDayAheadDoNotCount() {
        NoonJars x = Check.land("y1s1v2000j9");
        x.fill(0);
        x.carry(0, 1);
        x.spend(0, 1);
        x.night();
        x.spend(0, 1);
        x.night();
        due("DAYS that it was DARK", Check.ofPlace(x, 1, 2), 2);
    }

    private static void promise00WhatAJarBringsWasNeverOpened() {
        NoonJars x = Check.land("y6s1v0000e10l10");
        x.fill(0);
        x.spend(0, 1);
        due("brings(0, 4) of SEALED", x.brings(0, 4), 10);
        due("brings(1, 4) of LIDDED", x.brings(1, 4), 10);
    }

    private static void promise00ForEachPlaceANightIsOnTheWay() {
        for (int p = 0; p <= 4; p++) {
            NoonJars x = Check.land("y1s1v0000c17");
            x.fill(0);
            for (int day = 0; day < p; day++) {
                x.carry(0, 1);
                x.night();
            }
            due("brings(0, " + p + ")", x.brings(0, p), Check.ofJar(x, 0, 2));
            due("PLACE", Check.ofJar(x, 0, 3), p);
        }
    }

    private static void promise00SixtyDeedsAreKeptInMind() {
        NoonJars x = Check.land("y1s1v0000j20");
        x.fill(0);
        nights(x, 59);
        due("DEEDS", x.count(8), 60);
        for (int i = 0; i < 59; i++) {
            due("undo()", x.undo(), 5);
        }
        due("undo() of the first", x.undo(), 0);
        refused(x, "undo() of none", STATE, () -> x.undo());
    }

    private static void promise00AFurtherDeedMakesTheFirstBeForgotten() {
        NoonJars x = Check.land("y1s1v0000j20");
        x.fill(0);
        nights(x, 60);
        due("DEEDS", x.count(8), 60);
        for (int i = 0; i < 60; i++) {
            due("undo()", x.undo(), 5);
        }
        refused(x, "undo() of the forgotten one", STATE, () -> x.undo());
        due("what it did stays", x.count(1), 20);
    }

    private static void promise00DeedsAreForgottenOneByOne() {
        NoonJars x = Check.land("y1s1v0000j20");
        x.fill(0);
        for (int i = 0; i < 20; i++) {
            x.steal(0, 1);
        }
        nights(x, 150);
        due("DEEDS", x.count(8), 60);
        for (int i = 0; i < 30; i++) {
            x.undo();
        }
        due("DEEDS", x.count(8), 30);
        x.fill(0);
        due("DEEDS", x.count(8), 31);
        due("undo()", x.undo(), 0);
        for (int i = 0; i < 30; i++) {
            due("undo()", x.undo(), 5);
        }
        due("the DAY", x.count(2), 90);
        refused(x, "undo() of none", STATE, () -> x.undo());
    }

    // ---- what it is

    private static void promise00AnObjectIsGoodForItsLastCall() {
        NoonJars x = Check.land("y6s1v1111j20j20");
        // The calls so far: text(), put() of each sign, land().
        int calls = 1 + "y6s1v1111j20j20".length() + 1;
        int filled = 0;
        while (calls < 509) {
            filled += x.fill(0) > 0 ? 1 : 0;
            x.spend(0, 1);
            calls += 2;
        }
        due("times that it was filled", filled, (509 - 17) / 2);
        while (calls < 511) {
            x.night();
            calls++;
        }
        due("the 512th call", x.count(2), 511 - 509);
    }
}
