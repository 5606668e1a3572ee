/** Promises 30 to 33: pourings till a JAR holds just so much. */
public final class PouringsTest {
    private static final Check CHECK = new Check("PouringsTest");

    public static void main(String[] args) {
        fewest();
        ways();
        losses();
        mosts();
        refusals();
        otherPlaces();
        CHECK.end();
    }

    private static NoonJars filledFirst() {
        NoonJars x = Check.land("y6s1v0000j20j13j7");
        x.fill(0);
        return x;
    }

    private static void fewest() {
        NoonJars x = filledFirst();
        long digest = x.digest();
        CHECK.tells(30, x, "pours(0, 20)", x.pours(0, 20), 0, 0);
        CHECK.tells(30, x, "pours(1, 0)", x.pours(1, 0), 0, 0);
        CHECK.tells(30, x, "pours(1, 13)", x.pours(1, 13), 1, 2);
        CHECK.tells(30, x, "pours(0, 5)", x.pours(0, 5), 1, 2);
        CHECK.tells(30, x, "pours(2, 5)", x.pours(2, 5), 3, 3);
        CHECK.tells(30, x, "pours(0, 0)", x.pours(0, 0), 2, 3);
        CHECK.due(30, "all stays", x.digest(), digest);
        CHECK.refused(30, x, "pours(2, 8): above its SIZE", NoonJars.NONE, () -> x.pours(2, 8));
        CHECK.refused(30, x, "pours(0, 19)", NoonJars.NONE, () -> x.pours(0, 19));
    }

    private static void dueWay(NoonJars x, int k, int n, int r, int... want) {
        int asked = x.asked();
        CHECK.due(31, "way(" + k + ", " + n + ")", x.way(k, n, r), want.length);
        CHECK.due(31, "asked() stays", x.asked(), asked);
        for (int i = 0; i < want.length; i++) {
            CHECK.due(31, "pouring " + i, Check.placeOf(x, r, i), want[i]);
        }
        CHECK.due(31, "no further pouring", x.at(r, want.length), NoonJars.FINDING);
    }

    private static void ways() {
        NoonJars x = filledFirst();
        dueWay(x, 1, 13, 5, 1);
        dueWay(x, 2, 5, 5, 2, 13, 8);
        dueWay(x, 0, 20, 5);
        dueWay(x, 0, 5, 0, 1);
        Check.fillRow(x, 1, 4, 5);
        CHECK.refused(31, x, "way(2, 8, 1)", NoonJars.NONE, () -> x.way(2, 8, 1));
        CHECK.due(31, "the ROW stays", Check.placeOf(x, 1, 1), 5);
        // JAR 0 and JAR 2 are both full, either makes JAR 1 hold 9: the first row is by the lower number.
        NoonJars y = Check.land("y6s1v0000j10j10j10");
        y.fill(0);
        y.fill(2);
        dueWay(y, 1, 9, 5, 1);
        NoonJars z = Check.land("y6s1v0000j10c3j10");
        z.carry(1, 1);
        z.fill(2);
        dueWay(z, 0, 9, 5, 12);
    }

    private static void losses() {
        NoonJars x = filledFirst();
        CHECK.due(32, "loss(0, 20)", x.loss(0, 20), 0);
        CHECK.due(32, "loss(1, 13)", x.loss(1, 13), 2);
        CHECK.due(32, "loss(2, 5)", x.loss(2, 5), 3);
        CHECK.due(32, "loss(1, 9)", x.loss(1, 9), 4);
        CHECK.due(32, "loss(0, 0)", x.loss(0, 0), 3);
        CHECK.due(32, "asked() stays", x.asked(), 0);
        CHECK.refused(32, x, "loss(2, 8)", NoonJars.NONE, () -> x.loss(2, 8));
    }

    private static void mosts() {
        NoonJars x = filledFirst();
        CHECK.tells(33, x, "most(0)", x.most(0), 20, 316);
        CHECK.tells(33, x, "most(1)", x.most(1), 13, 316);
        CHECK.tells(33, x, "most(2)", x.most(2), 7, 316);
        NoonJars full = Check.land("y6s1v0000j20j20j20");
        full.fill(0);
        full.fill(1);
        full.fill(2);
        CHECK.tells(33, full, "most(2), all full", full.most(2), 20, 1);
        NoonJars y = Check.land("y6s1v0000j5j9");
        CHECK.tells(33, y, "most(0), all empty", y.most(0), 0, 1);
        y.fill(0);
        CHECK.tells(33, y, "most(0)", y.most(0), 5, 5);
        CHECK.tells(33, y, "most(1)", y.most(1), 4, 5);
        NoonJars z = Check.land("y6s1v0000e7");
        z.fill(0);
        CHECK.tells(33, z, "most(0), alone", z.most(0), 7, 1);
    }

    private static void refusals() {
        NoonJars x = Check.land("y6s1v0000j5j9j5j5");
        CHECK.refused(30, x, "pours(0, 0) of four", NoonJars.SPENT, () -> x.pours(0, 0));
        CHECK.refused(31, x, "way(0, 0, 0) of four", NoonJars.SPENT, () -> x.way(0, 0, 0));
        CHECK.refused(32, x, "loss(0, 0) of four", NoonJars.SPENT, () -> x.loss(0, 0));
        CHECK.refused(33, x, "most(0) of four", NoonJars.SPENT, () -> x.most(0));
        CHECK.refused(30, x, "pours(0, 21)", NoonJars.BAD, () -> x.pours(0, 21));
        CHECK.refused(30, x, "pours(0, -1)", NoonJars.BAD, () -> x.pours(0, -1));
        CHECK.refused(30, x, "pours(4, 0)", NoonJars.BAD, () -> x.pours(4, 0));
        CHECK.refused(30, x, "pours(-1, 0)", NoonJars.BAD, () -> x.pours(-1, 0));
        CHECK.refused(31, x, "way(0, 21, 0)", NoonJars.BAD, () -> x.way(0, 21, 0));
        CHECK.refused(31, x, "way(0, -1, 0)", NoonJars.BAD, () -> x.way(0, -1, 0));
        CHECK.refused(31, x, "way(4, 0, 0)", NoonJars.BAD, () -> x.way(4, 0, 0));
        CHECK.refused(31, x, "way(0, 0, 6)", NoonJars.BAD, () -> x.way(0, 0, 6));
        CHECK.refused(31, x, "way(0, 0, -1)", NoonJars.BAD, () -> x.way(0, 0, -1));
        CHECK.refused(32, x, "loss(0, 21)", NoonJars.BAD, () -> x.loss(0, 21));
        CHECK.refused(32, x, "loss(0, -1)", NoonJars.BAD, () -> x.loss(0, -1));
        CHECK.refused(32, x, "loss(4, 0)", NoonJars.BAD, () -> x.loss(4, 0));
        CHECK.refused(33, x, "most(4)", NoonJars.BAD, () -> x.most(4));
        CHECK.refused(33, x, "most(-1)", NoonJars.BAD, () -> x.most(-1));
        x.carry(2, 1);
        CHECK.tells(30, x, "pours(0, 0) of three", x.pours(0, 0), 0, 0);
        CHECK.due(31, "way(0, 0, 0) of three", x.way(0, 0, 0), 0);
        CHECK.due(31, "the ROW is there", x.count(6), 1);
        CHECK.due(32, "loss(0, 0) of three", x.loss(0, 0), 0);
        CHECK.tells(33, x, "most(2), alone", x.most(2), 0, 1);
    }

    private static void otherPlaces() {
        NoonJars x = Check.land("y6s1v0000j5c9j20l20u6");
        x.fill(3);
        x.fill(2);
        x.carry(3, 1);
        x.carry(1, 1);
        x.carry(4, 1);
        CHECK.tells(30, x, "pours(1, 9) in VALLEY 1", x.pours(1, 9), 1, 2);
        CHECK.due(31, "way(1, 9, 0)", x.way(1, 9, 0), 1);
        CHECK.due(31, "6 times 3 and 1", Check.placeOf(x, 0, 0), 19);
        CHECK.due(31, "way(4, 6, 0)", x.way(4, 6, 0), 1);
        CHECK.due(31, "6 times 3 and 4", Check.placeOf(x, 0, 0), 22);
        CHECK.tells(30, x, "pours(0, 5) on the MOUNTAIN", x.pours(0, 5), 1, 1);
        CHECK.due(31, "way(0, 5, 0)", x.way(0, 5, 0), 1);
        CHECK.due(31, "6 times 2 and 0", Check.placeOf(x, 0, 0), 12);
    }
}
