/** Promises 16 to 24: DEEDS, how they are undone, LANDS that are kept. */
public final class DeedsTest {
    private static final Check CHECK = new Check("DeedsTest");

    public static void main(String[] args) {
        fills();
        carries();
        pours();
        spends();
        steals();
        nights();
        lastDay();
        undoes();
        forgetsTheFirst();
        keeps();
        CHECK.end();
    }

    private static void fills() {
        NoonJars x = Check.land("y2s10v0000j13e20");
        CHECK.due(16, "fill(0)", x.fill(0), 13);
        CHECK.due(16, "LIGHT", Check.ofJar(x, 0, 2), 13);
        CHECK.due(16, "fill(0), full", x.fill(0), 0);
        CHECK.due(16, "count(8)", x.count(8), 2);
        x.spend(0, 4);
        CHECK.due(16, "fill(0), in part", x.fill(0), 4);
        x.carry(1, 1);
        CHECK.refused(16, x, "fill(1) in a VALLEY", NoonJars.STATE, () -> x.fill(1));
        x.carry(1, 0);
        CHECK.due(16, "fill(1) back on the MOUNTAIN", x.fill(1), 20);
        x.night();
        CHECK.refused(16, x, "fill(0) without SUN", NoonJars.STATE, () -> x.fill(0));
        x.night();
        CHECK.due(16, "fill(0) on DAY 2", x.fill(0), 4);
        CHECK.refused(16, x, "fill(2)", NoonJars.BAD, () -> x.fill(2));
        CHECK.refused(16, x, "fill(-1)", NoonJars.BAD, () -> x.fill(-1));
        CHECK.due(16, "asked() stays", x.asked(), 0);
    }

    private static void carries() {
        NoonJars x = Check.land("y6s1v0000j13e20");
        CHECK.refused(17, x, "carry back from the MOUNTAIN", NoonJars.STATE, () -> x.carry(0, 0));
        for (int p = 1; p <= 4; p++) {
            CHECK.due(17, "carry on", x.carry(0, 1), p);
            CHECK.due(17, "MULES left", x.count(3), 6 - p);
        }
        CHECK.refused(17, x, "carry on from the last VALLEY", NoonJars.STATE, () -> x.carry(0, 1));
        CHECK.due(17, "carry back", x.carry(0, 0), 3);
        CHECK.due(17, "PLACE", Check.ofJar(x, 0, 3), 3);
        CHECK.due(17, "carry the other", x.carry(1, 1), 1);
        CHECK.refused(17, x, "carry without a MULE", NoonJars.STATE, () -> x.carry(1, 1));
        x.night();
        CHECK.due(17, "MULES left", x.count(3), 6);
        CHECK.due(17, "carry on the next DAY", x.carry(1, 1), 2);
        CHECK.refused(17, x, "carry(0, 2)", NoonJars.BAD, () -> x.carry(0, 2));
        CHECK.refused(17, x, "carry(0, -1)", NoonJars.BAD, () -> x.carry(0, -1));
        CHECK.refused(17, x, "carry(2, 1)", NoonJars.BAD, () -> x.carry(2, 1));
        CHECK.refused(17, x, "carry(-1, 1)", NoonJars.BAD, () -> x.carry(-1, 1));
    }

    private static void pours() {
        NoonJars x = Check.land("y6s1v0000j20j9j20j1");
        CHECK.refused(18, x, "pour nothing", NoonJars.STATE, () -> x.pour(0, 1));
        x.fill(0);
        CHECK.tells(18, x, "pour(0, 1): 11, 2 spilt", x.pour(0, 1), 9, 2);
        CHECK.due(18, "LIGHT 0", Check.ofJar(x, 0, 2), 9);
        CHECK.due(18, "LIGHT 1", Check.ofJar(x, 1, 2), 9);
        CHECK.refused(18, x, "pour into a full one", NoonJars.STATE, () -> x.pour(0, 1));
        CHECK.tells(18, x, "pour(0, 2): all 9", x.pour(0, 2), 8, 1);
        CHECK.due(18, "LIGHT 0", Check.ofJar(x, 0, 2), 0);
        CHECK.tells(18, x, "pour(2, 3): 2, 1 spilt", x.pour(2, 3), 1, 1);
        CHECK.refused(18, x, "pour 1: nothing comes over", NoonJars.STATE, () -> x.pour(3, 0));
        CHECK.due(18, "OPENED", Check.ofJar(x, 3, 4), 1);
        x.carry(2, 1);
        CHECK.refused(18, x, "pour to another PLACE", NoonJars.STATE, () -> x.pour(2, 0));
        CHECK.refused(18, x, "pour(0, 0)", NoonJars.BAD, () -> x.pour(0, 0));
        CHECK.refused(18, x, "pour(0, 4)", NoonJars.BAD, () -> x.pour(0, 4));
        CHECK.refused(18, x, "pour(4, 0)", NoonJars.BAD, () -> x.pour(4, 0));
        CHECK.refused(18, x, "pour(-1, 0)", NoonJars.BAD, () -> x.pour(-1, 0));
        CHECK.refused(18, x, "pour(0, -1)", NoonJars.BAD, () -> x.pour(0, -1));
        NoonJars y = Check.land("y6s1v0000j20j18j20");
        y.fill(0);
        CHECK.tells(18, y, "pour 20", y.pour(0, 1), 18, 2);
        y.fill(0);
        CHECK.tells(18, y, "pour 20 into 20", y.pour(0, 2), 18, 2);
        y.fill(0);
        CHECK.tells(18, y, "pour 3 into room 2", y.pour(0, 2), 2, 1);
        CHECK.due(18, "LIGHT 0", Check.ofJar(y, 0, 2), 17);
    }

    private static void spends() {
        NoonJars x = Check.land("y6s1v0000j20d15u20c3e3l3");
        for (int k = 0; k < 6; k++) {
            x.fill(k);
        }
        CHECK.due(19, "spend(0, 20)", x.spend(0, 20), 0);
        CHECK.refused(19, x, "spend(0, 1), empty", NoonJars.STATE, () -> x.spend(0, 1));
        CHECK.refused(19, x, "spend(1, 8) of DAWN 15", NoonJars.STATE, () -> x.spend(1, 8));
        CHECK.due(19, "spend(1, 7) of DAWN 15", x.spend(1, 7), 1);
        CHECK.refused(19, x, "spend(2, 7) of DUSK 20", NoonJars.STATE, () -> x.spend(2, 7));
        CHECK.due(19, "spend(2, 6) of DUSK 20", x.spend(2, 6), 2);
        CHECK.due(19, "spend(3, 2) of CLAY 3", x.spend(3, 2), 1);
        CHECK.due(19, "spend(4, 2) of SEALED 3", x.spend(4, 2), 1);
        CHECK.due(19, "spend(5, 2) of LIDDED 3", x.spend(5, 2), 1);
        CHECK.due(19, "HOURS", Check.ofPlace(x, 0, 1), 39);
        CHECK.due(19, "OPENED", Check.ofJar(x, 5, 4), 1);
        CHECK.refused(19, x, "spend(3, 0)", NoonJars.BAD, () -> x.spend(3, 0));
        CHECK.refused(19, x, "spend(3, 21)", NoonJars.BAD, () -> x.spend(3, 21));
        CHECK.refused(19, x, "spend(6, 1)", NoonJars.BAD, () -> x.spend(6, 1));
        CHECK.refused(19, x, "spend(-1, 1)", NoonJars.BAD, () -> x.spend(-1, 1));
    }

    private static void steals() {
        NoonJars x = Check.land("y6s1v0000u20l20e5");
        x.fill(0);
        x.fill(1);
        x.fill(2);
        CHECK.due(20, "steal(0, 20)", x.steal(0, 20), 0);
        CHECK.refused(20, x, "steal(0, 1), empty", NoonJars.STATE, () -> x.steal(0, 1));
        CHECK.refused(20, x, "steal(1, 1), LIDDED", NoonJars.STATE, () -> x.steal(1, 1));
        CHECK.refused(20, x, "steal(2, 6)", NoonJars.STATE, () -> x.steal(2, 6));
        CHECK.due(20, "steal(2, 2)", x.steal(2, 2), 3);
        CHECK.due(20, "OPENED", Check.ofJar(x, 2, 4), 0);
        CHECK.due(20, "HOURS", Check.ofPlace(x, 0, 1), 0);
        CHECK.refused(20, x, "steal(2, 0)", NoonJars.BAD, () -> x.steal(2, 0));
        CHECK.refused(20, x, "steal(2, 21)", NoonJars.BAD, () -> x.steal(2, 21));
        CHECK.refused(20, x, "steal(3, 1)", NoonJars.BAD, () -> x.steal(3, 1));
        CHECK.refused(20, x, "steal(-1, 1)", NoonJars.BAD, () -> x.steal(-1, 1));
    }

    private static void nights() {
        NoonJars x = Check.land("y6s1v1203j11c11e11d20l11u10");
        for (int k = 0; k < 6; k++) {
            x.fill(k);
        }
        x.carry(0, 1);
        x.carry(1, 1);
        x.carry(1, 1);
        x.spend(0, 1);
        x.spend(1, 1);
        CHECK.tells(21, x, "night()", x.night(), 1 + 2 + 0 + 2 + 0 + 1, 2);
        int[] light = {9, 8, 11, 18, 11, 9};
        for (int k = 0; k < 6; k++) {
            CHECK.due(21, "LIGHT " + k, Check.ofJar(x, k, 2), light[k]);
        }
        int[] dark = {0, 0, 1, 0, 1};
        for (int p = 0; p < 5; p++) {
            CHECK.due(21, "DARK", Check.ofPlace(x, p, 2), dark[p]);
            CHECK.due(21, "HOURS", Check.ofPlace(x, p, 1), 0);
        }
        CHECK.due(21, "the DAY", x.count(2), 1);
        x.spend(2, 1);
        x.spend(4, 1);
        CHECK.tells(21, x, "night()", x.night(), 1 + 2 + 1 + 2 + 0 + 1, 3);
        CHECK.due(21, "SEALED, OPENED", Check.ofJar(x, 2, 2), 9);
        x.fill(2);
        CHECK.tells(21, x, "night()", x.night(), 1 + 2 + 0 + 2 + 0 + 1, 3);
    }

    private static void lastDay() {
        NoonJars x = new NoonJars();
        for (int i = 0; i < 400; i++) {
            x.night();
        }
        CHECK.due(21, "the DAY without a LAND", x.count(2), 400);
        // By lots, for an object is used for 512 calls at most.
        NoonJars y = Check.land("y1s1v1000j1j1");
        for (int seed = 1; seed < 200 && y.count(2) < 999; seed++) {
            y.lots(40, seed * 7919);
        }
        CHECK.due(21, "the DAY", y.count(2), 999);
        CHECK.refused(21, y, "night() on DAY 999", NoonJars.FULL, () -> y.night());
    }

    private static void undoes() {
        NoonJars x = Check.land("y6s1v1203j11c11e11");
        long[] digests = new long[7];
        digests[0] = x.digest();
        x.fill(0);
        digests[1] = x.digest();
        x.pour(0, 2);
        digests[2] = x.digest();
        x.carry(2, 1);
        digests[3] = x.digest();
        x.spend(2, 2);
        digests[4] = x.digest();
        x.steal(2, 1);
        digests[5] = x.digest();
        x.night();
        CHECK.due(22, "count(8)", x.count(8), 6);
        int asked = x.asked();
        int[] sorts = {0, 2, 1, 3, 4, 5};
        for (int i = 5; i >= 0; i--) {
            CHECK.due(22, "undo()", x.undo(), sorts[i]);
            CHECK.due(22, "digest() behind undo()", x.digest(), digests[i]);
        }
        CHECK.due(22, "asked() stays", x.asked(), asked);
        CHECK.refused(22, x, "undo() of none", NoonJars.STATE, () -> x.undo());
        CHECK.due(22, "done again", x.fill(0), 11);
        CHECK.due(22, "undo()", x.undo(), 0);
        CHECK.due(22, "LIGHT", Check.ofJar(x, 0, 2), 0);
    }

    private static void forgetsTheFirst() {
        NoonJars x = Check.land("y6s1v0000j20");
        x.fill(0);
        for (int i = 0; i < 20; i++) {
            x.steal(0, 1);
        }
        for (int i = 0; i < 39; i++) {
            x.night();
        }
        CHECK.due(22, "count(8)", x.count(8), 60);
        x.night();
        x.fill(0);
        CHECK.due(22, "count(8)", x.count(8), 60);
        CHECK.due(22, "undo() of fill()", x.undo(), 0);
        for (int i = 0; i < 40; i++) {
            CHECK.due(22, "undo() of night()", x.undo(), 5);
        }
        for (int i = 0; i < 19; i++) {
            CHECK.due(22, "undo() of steal()", x.undo(), 4);
        }
        CHECK.due(22, "LIGHT", Check.ofJar(x, 0, 2), 19);
        CHECK.refused(22, x, "undo() of what is forgotten", NoonJars.STATE, () -> x.undo());
    }

    private static void keeps() {
        NoonJars x = Check.land("y6s1v1203j11c11e11");
        CHECK.finds(24, x, "on(0)", 1, () -> x.on(0));
        x.fill(0);
        x.night();
        x.carry(0, 1);
        x.spend(0, 1);
        CHECK.due(23, "keep(0)", x.keep(0), 1);
        CHECK.due(23, "count(8) stays", x.count(8), 4);
        x.burnt(1, 11);
        x.night();
        x.night();
        x.carry(1, 1);
        CHECK.due(23, "keep(2)", x.keep(2), 3);
        CHECK.due(24, "on(0)", x.on(0), 1);
        CHECK.due(24, "LIGHT", Check.ofJar(x, 0, 2), 8);
        CHECK.due(24, "PLACE", Check.ofJar(x, 0, 3), 1);
        CHECK.due(24, "PLACE", Check.ofJar(x, 1, 3), 0);
        CHECK.due(24, "OPENED", Check.ofJar(x, 0, 4), 1);
        CHECK.due(24, "HOURS", Check.ofPlace(x, 1, 1), 1);
        CHECK.due(24, "DARK", Check.ofPlace(x, 2, 2), 1);
        CHECK.due(24, "the DAY", x.count(2), 1);
        CHECK.due(24, "MULES left", x.count(3), 5);
        CHECK.due(24, "no DEEDS", x.count(8), 0);
        CHECK.due(24, "BURNT ones stay", x.count(9), 1);
        CHECK.refused(24, x, "undo()", NoonJars.STATE, () -> x.undo());
        CHECK.due(24, "on(2)", x.on(2), 3);
        CHECK.due(24, "PLACE", Check.ofJar(x, 1, 3), 1);
        CHECK.due(24, "on(2) again", x.on(2), 3);
        CHECK.finds(24, x, "on(1)", 1, () -> x.on(1));
        CHECK.refused(24, x, "on(3)", NoonJars.BAD, () -> x.on(3));
        CHECK.refused(24, x, "on(-1)", NoonJars.BAD, () -> x.on(-1));
        CHECK.refused(23, x, "keep(3)", NoonJars.BAD, () -> x.keep(3));
        CHECK.refused(23, x, "keep(-1)", NoonJars.BAD, () -> x.keep(-1));
        CHECK.due(23, "keep(0) anew", x.keep(0), 3);
        CHECK.due(24, "on(0)", x.on(0), 3);
        NoonJars y = Check.land("y6s1v1203");
        CHECK.refused(23, y, "keep(0) without JARS", NoonJars.STATE, () -> y.keep(0));
        CHECK.refused(23, y, "keep(3) without JARS", NoonJars.BAD, () -> y.keep(3));
    }
}
