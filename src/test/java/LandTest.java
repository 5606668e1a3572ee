/** Promises 10 to 15: LANDS by TEXTS, their JARS, PLACES, SUNS. */
public final class LandTest {
    private static final Check CHECK = new Check("LandTest");

    public static void main(String[] args) {
        faults();
        lands();
        landsAnew();
        jars();
        marks();
        places();
        suns();
        CHECK.end();
    }

    private static void dueFault(String text, int want) {
        NoonJars x = new NoonJars();
        Check.write(x, 1, text);
        long digest = x.digest();
        CHECK.due(10, "fault of '" + text + "'", x.fault(1), want);
        CHECK.due(10, "digest() behind fault()", x.digest(), digest);
        if (want != NoonJars.NONE) {
            CHECK.refused(11, x, "land of '" + text + "'", NoonJars.STATE, () -> x.land(1));
        }
    }

    private static void faults() {
        dueFault("y1s1v1234", NoonJars.NONE);
        dueFault("  y6   s00000000   v0909   u20 l1  ", NoonJars.NONE);
        dueFault("y1s1v1234j1c2e3d4l5u6", NoonJars.NONE);
        dueFault("y1s1v1234j20c10e19d9l01", NoonJars.NONE);
        dueFault("", 0);
        dueFault("   ", 3);
        dueFault("x", 0);
        dueFault(" s1", 1);
        dueFault("Y1s1v1234", 0);
        dueFault("y", 1);
        dueFault("y  ", 1);
        dueFault("y0s1v1234", 1);
        dueFault("y7s1v1234", 1);
        dueFault("y 1s1v1234", 1);
        dueFault("y11s1v1234", 2);
        dueFault("y1", 2);
        dueFault("y1  ", 4);
        dueFault("y1 v1234", 3);
        dueFault("y1y1", 2);
        dueFault("y1s", 3);
        dueFault("y1s v1234", 3);
        dueFault("y1s2v1234", 3);
        dueFault("y1s12", 4);
        dueFault("y1s1 1v1234", 5);
        dueFault("y1s10101010v1234", NoonJars.NONE);
        dueFault("y1s101010101v1234", 11);
        dueFault("y1s1", 4);
        dueFault("y1s1  ", 6);
        dueFault("y1s1j5", 4);
        dueFault("y1s1s1", 4);
        dueFault("y1s1v", 5);
        dueFault("y1s1v123", 8);
        dueFault("y1s1v123 4", 8);
        dueFault("y1s1v123j5", 8);
        dueFault("y1s1v12345", 9);
        dueFault("y1s1v1234 5", 10);
        dueFault("y1s1v1234v1234", 9);
        dueFault("y1s1v1234J5", 9);
        dueFault("y1s1v1234j", 10);
        dueFault("y1s1v1234j 5", 10);
        dueFault("y1s1v1234jj", 10);
        dueFault("y1s1v1234j0", 11);
        dueFault("y1s1v1234j0 ", 11);
        dueFault("y1s1v1234j00", 12);
        dueFault("y1s1v1234j00j5", 12);
        dueFault("y1s1v1234j21j5", 12);
        dueFault("y1s1v1234j99 ", 12);
        dueFault("y1s1v1234j200", 12);
        dueFault("y1s1v1234j210", 12);
        dueFault("y1s1v1234j5x", 11);
        dueFault("y1s1v1234j1j1j1j1j1j1 ", NoonJars.NONE);
        dueFault("y1s1v1234j1j1j1j1j1j1 j1", 22);
        dueFault("y1s1v1234j1j1j1j1j1j1x", 21);
        NoonJars x = new NoonJars();
        Check.write(x, 0, "y1s1v1234j5 ");
        x.put(0, 11, -96);
        CHECK.due(10, "fault of a byte below 0", x.fault(0), 11);
        x.put(0, 11, 'c' - 256);
        CHECK.due(10, "fault of a letter that is cut to it", x.fault(0), 12);
        CHECK.finds(10, x, "fault missing", 1, () -> x.fault(3));
        CHECK.refused(10, x, "fault(4)", NoonJars.BAD, () -> x.fault(4));
        CHECK.refused(10, x, "fault(-1)", NoonJars.BAD, () -> x.fault(-1));
        CHECK.finds(11, x, "land missing", 1, () -> x.land(3));
        CHECK.refused(11, x, "land(4)", NoonJars.BAD, () -> x.land(4));
        CHECK.refused(11, x, "land(-1)", NoonJars.BAD, () -> x.land(-1));
    }

    private static void lands() {
        NoonJars x = new NoonJars();
        Check.write(x, 2, " y4 s011 v9078 j1 c2 e3 d4 l15 u20 ");
        CHECK.due(11, "land(2)", x.land(2), 6);
        CHECK.due(11, "count(0)", x.count(0), 6);
        CHECK.due(11, "count(3)", x.count(3), 4);
        int[] sizes = {1, 2, 3, 4, 15, 20};
        for (int k = 0; k < 6; k++) {
            CHECK.due(12, "KIND", Check.ofJar(x, k, 0), k);
            CHECK.due(12, "SIZE", Check.ofJar(x, k, 1), sizes[k]);
            CHECK.due(11, "LIGHT", Check.ofJar(x, k, 2), 0);
            CHECK.due(11, "PLACE", Check.ofJar(x, k, 3), 0);
            CHECK.due(11, "OPENED", Check.ofJar(x, k, 4), 0);
        }
        int[] needs = {0, 9, 0, 7, 8};
        for (int p = 0; p < 5; p++) {
            CHECK.due(14, "NEED", Check.ofPlace(x, p, 0), needs[p]);
        }
        x.text(2, 0);
        CHECK.due(11, "the LAND stays without its TEXT", x.count(0), 6);
    }

    private static void landsAnew() {
        NoonJars x = Check.land("y2s1v1111j9c9");
        Check.write(x, 1, "y3s0v0000e7");
        x.row(4, 3);
        x.fill(0);
        x.carry(0, 1);
        x.spend(0, 2);
        x.night();
        x.keep(1);
        x.burnt(3, 9);
        x.carry(1, 1);
        x.lay(4, 2, 8);
        x.at(4, 2);
        CHECK.due(11, "land(1)", x.land(1), 1);
        int[] counts = {1, 0, 0, 3, 1, 0, 1, 2, 0, 0};
        for (int what = 0; what <= 9; what++) {
            CHECK.due(11, "count(" + what + ")", x.count(what), counts[what]);
        }
        CHECK.due(11, "asked() stays", x.asked(), 8);
        CHECK.finds(11, x, "on(1)", 1, () -> x.on(1));
        CHECK.due(11, "KIND", Check.ofJar(x, 0, 0), 2);
        CHECK.due(11, "PLACE", Check.ofJar(x, 0, 3), 0);
        CHECK.due(11, "OPENED", Check.ofJar(x, 0, 4), 0);
        for (int p = 0; p < 5; p++) {
            for (int what = 0; what < 4; what++) {
                CHECK.due(11, "place", Check.ofPlace(x, p, what), 0);
            }
        }
        CHECK.due(11, "sun(0)", x.sun(0), 0);
        CHECK.refused(11, x, "jar(1, 0)", NoonJars.BAD, () -> x.jar(1, 0));
        Check.write(x, 1, "y3s0v0000e7x");
        CHECK.refused(11, x, "land with a FAULT", NoonJars.STATE, () -> x.land(1));
    }

    private static void jars() {
        NoonJars x = Check.land("y6s1v0000e20j20");
        CHECK.due(12, "OPENED at first", Check.ofJar(x, 0, 4), 0);
        x.fill(0);
        x.steal(0, 1);
        x.carry(0, 1);
        CHECK.due(12, "OPENED, not by a theft", Check.ofJar(x, 0, 4), 0);
        CHECK.tells(12, x, "jar(0, 2)", x.jar(0, 2), 1, 19);
        CHECK.tells(12, x, "jar(0, 3)", x.jar(0, 3), 1, 1);
        x.carry(1, 1);
        x.pour(0, 1);
        CHECK.due(12, "OPENED, poured from", Check.ofJar(x, 0, 4), 1);
        CHECK.due(12, "OPENED, poured into, never filled", Check.ofJar(x, 1, 4), 1);
        x.carry(0, 0);
        x.fill(0);
        CHECK.due(12, "OPENED, filled again", Check.ofJar(x, 0, 4), 0);
        x.spend(0, 1);
        CHECK.due(12, "OPENED, spent from", Check.ofJar(x, 0, 4), 1);
        CHECK.refused(12, x, "jar(2, 0)", NoonJars.BAD, () -> x.jar(2, 0));
        CHECK.refused(12, x, "jar(-1, 0)", NoonJars.BAD, () -> x.jar(-1, 0));
        CHECK.refused(12, x, "jar(0, 5)", NoonJars.BAD, () -> x.jar(0, 5));
        CHECK.refused(12, x, "jar(0, -1)", NoonJars.BAD, () -> x.jar(0, -1));
    }

    private static void marks() {
        boolean[][] is = new boolean[6][6];
        for (int k = 0; k < 6; k++) {
            is[k][k] = true;
        }
        is[4][2] = true;
        is[5][3] = true;
        for (int k = 0; k < 6; k++) {
            unlikeMarks(k, is[k]);
        }
        NoonJars x = Check.land("y6s1v0000j20c19e18d17l16u17");
        CHECK.due(13, "CLAY, empty", x.mark(1, 1), 0);
        CHECK.due(13, "SEALED, empty", x.mark(2, 2), NoonJars.NONE);
        for (int k = 0; k < 6; k++) {
            x.fill(k);
        }
        markedJars(x);
    }

    private static void unlikeMarks(int k, boolean[] is) {
        NoonJars x = Check.land("y6s1v0000j20c19e18d17l16u17");
        for (int kind = 1; kind < 6; kind++) {
            int other = kind;
            if (!is[kind]) {
                CHECK.finds(13, x, "mark(" + k + ", " + kind + ")", 3, () -> x.mark(k, other));
            }
        }
        CHECK.refused(13, x, "mark(k, 0)", NoonJars.BAD, () -> x.mark(k, 0));
        CHECK.refused(13, x, "mark(k, 6)", NoonJars.BAD, () -> x.mark(k, 6));
        CHECK.refused(13, x, "mark(k, -1)", NoonJars.BAD, () -> x.mark(k, -1));
        CHECK.refused(13, x, "mark(6, 1)", NoonJars.BAD, () -> x.mark(6, 1));
        CHECK.refused(13, x, "mark(-1, 1)", NoonJars.BAD, () -> x.mark(-1, 1));
    }

    private static void markedJars(NoonJars x) {
        CHECK.due(13, "CLAY of 19: 4 for 2", x.mark(1, 1), 2);
        x.spend(1, 9);
        CHECK.due(13, "CLAY of 10: 2 for 1", x.mark(1, 1), 1);
        x.spend(1, 5);
        CHECK.due(13, "CLAY of 5: 1 for 1", x.mark(1, 1), 0);
        CHECK.due(13, "SEALED, not OPENED", x.mark(2, 2), NoonJars.NONE);
        x.spend(2, 1);
        CHECK.due(13, "SEALED, OPENED", x.mark(2, 2), 0);
        x.spend(2, 17);
        CHECK.due(13, "SEALED, OPENED, empty", x.mark(2, 2), NoonJars.NONE);
        CHECK.due(13, "DAWN of 17: 8 for 17", x.mark(3, 3), 9);
        CHECK.due(13, "DUSK of 17: 5 for 17", x.mark(5, 3), 12);
        CHECK.due(13, "DUSK of 17: 2 left", x.mark(5, 5), 2);
        x.spend(5, 5);
        CHECK.due(13, "DUSK of 2: 0 for 2", x.mark(5, 3), 2);
        CHECK.due(13, "DUSK of 2: 2 left", x.mark(5, 5), 2);
        CHECK.due(13, "LIDDED gives 16", x.mark(4, 4), 16);
        x.spend(4, 3);
        CHECK.due(13, "LIDDED gives 13", x.mark(4, 4), 13);
        CHECK.due(13, "LIDDED, OPENED", x.mark(4, 2), NoonJars.NONE);
        CHECK.due(13, "asked() stays", x.asked(), 0);
    }

    private static void places() {
        NoonJars x = Check.land("y6s1v2003d9j8j7");
        for (int k = 0; k < 3; k++) {
            x.fill(k);
        }
        CHECK.tells(14, x, "place(0, 3)", x.place(0, 3), 1, 24);
        x.carry(0, 1);
        x.carry(1, 1);
        x.spend(0, 2);
        x.spend(1, 1);
        x.spend(2, 4);
        CHECK.tells(14, x, "place(1, 1)", x.place(1, 1), 1, 3);
        CHECK.tells(14, x, "place(0, 1)", x.place(0, 1), 1, 4);
        CHECK.tells(14, x, "place(1, 3)", x.place(1, 3), 1, 12);
        CHECK.tells(14, x, "place(0, 3)", x.place(0, 3), 1, 3);
        x.night();
        x.night();
        CHECK.due(14, "HOURS behind a NIGHT", Check.ofPlace(x, 1, 1), 0);
        int[] dark = {0, 1, 0, 0, 2};
        for (int p = 0; p < 5; p++) {
            CHECK.due(14, "DARK", Check.ofPlace(x, p, 2), dark[p]);
        }
        CHECK.refused(14, x, "place(5, 0)", NoonJars.BAD, () -> x.place(5, 0));
        CHECK.refused(14, x, "place(-1, 0)", NoonJars.BAD, () -> x.place(-1, 0));
        CHECK.refused(14, x, "place(0, 4)", NoonJars.BAD, () -> x.place(0, 4));
        CHECK.refused(14, x, "place(0, -1)", NoonJars.BAD, () -> x.place(0, -1));
    }

    private static void suns() {
        NoonJars x = Check.land("y1s01101v0000");
        int[] figures = {0, 1, 1, 0, 1};
        for (int day = 0; day < 1000; day += 37) {
            CHECK.due(15, "sun(" + day + ")", x.sun(day), figures[day % 5]);
        }
        CHECK.due(15, "sun(999)", x.sun(999), 1);
        CHECK.refused(15, x, "sun(1000)", NoonJars.BAD, () -> x.sun(1000));
        CHECK.refused(15, x, "sun(-1)", NoonJars.BAD, () -> x.sun(-1));
    }
}
