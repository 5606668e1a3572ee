/** Promises 25 to 29: what JARS bring, which to which VALLEY, a store for the winter. */
public final class BringsTest {
    private static final Check CHECK = new Check("BringsTest");

    public static void main(String[] args) {
        brings();
        bests();
        loads();
        needs();
        stores();
        CHECK.end();
    }

    private static void brings() {
        NoonJars x = Check.land("y1s0v0000j20c20e20d20l20u20");
        int[][] light = {
            {20, 18, 16, 14, 12}, {20, 16, 12, 9, 7}, {20, 20, 20, 20, 20},
            {20, 18, 16, 14, 12}, {20, 20, 20, 20, 20}, {20, 18, 16, 14, 12}};
        int[] anHour = {1, 1, 1, 2, 1, 3};
        for (int k = 0; k < 6; k++) {
            for (int p = 0; p < 5; p++) {
                CHECK.tells(25, x, "brings(" + k + ", " + p + ")", x.brings(k, p), light[k][p],
                    light[k][p] / anHour[k]);
            }
        }
        CHECK.due(25, "LIGHT stays", x.count(1), 0);
        CHECK.refused(25, x, "brings(6, 0)", NoonJars.BAD, () -> x.brings(6, 0));
        CHECK.refused(25, x, "brings(-1, 0)", NoonJars.BAD, () -> x.brings(-1, 0));
        CHECK.refused(25, x, "brings(0, 5)", NoonJars.BAD, () -> x.brings(0, 5));
        CHECK.refused(25, x, "brings(0, -1)", NoonJars.BAD, () -> x.brings(0, -1));
        NoonJars y = Check.land("y1s1v0000e10");
        y.fill(0);
        y.spend(0, 3);
        CHECK.tells(25, y, "brings() of one that is OPENED now", y.brings(0, 3), 10, 10);
        CHECK.due(25, "LIGHT stays", y.count(1), 7);
    }

    private static void bests() {
        NoonJars x = Check.land("y1s1v0000c20j20e14l14u20d20");
        CHECK.tells(26, x, "best(0)", x.best(0), 0, 20);
        CHECK.tells(26, x, "best(1)", x.best(1), 1, 18);
        CHECK.tells(26, x, "best(2)", x.best(2), 1, 16);
        CHECK.tells(26, x, "best(3): the first", x.best(3), 1, 14);
        CHECK.tells(26, x, "best(4)", x.best(4), 2, 14);
        CHECK.refused(26, x, "best(5)", NoonJars.BAD, () -> x.best(5));
        CHECK.refused(26, x, "best(-1)", NoonJars.BAD, () -> x.best(-1));
        NoonJars y = Check.land("y1s1v0000");
        CHECK.refused(26, y, "best(0) without JARS", NoonJars.STATE, () -> y.best(0));
        CHECK.refused(26, y, "best(5) without JARS", NoonJars.BAD, () -> y.best(5));
    }

    private static void dueLoads(String text, int valleys, int figures) {
        NoonJars x = Check.land(text);
        CHECK.tells(27, x, "loads() of " + text, x.loads(), valleys, figures);
    }

    private static void loads() {
        dueLoads("y1s0v0000j20", 0, 0);
        dueLoads("y1s0v0009j9", 0, 0);
        dueLoads("y1s0v0009l9", 1, 4);
        dueLoads("y1s0v9000j10", 1, 1);
        dueLoads("y1s0v9999j20", 1, 1);
        dueLoads("y1s0v5050j6j6", 1, 1);
        dueLoads("y1s0v5050l5l5", 2, 5 + 3);
        // One JAR that is enough alone is better than two, though it comes first.
        dueLoads("y1s0v0800l9l4l4", 1, 2 * 25);
        dueLoads("y1s0v8000l4l4l9", 1, 1);
        // Two VALLEYS by three JARS are better than one by one.
        dueLoads("y1s0v8800l9l4l4", 2, 25 + 2 * 5 + 2);
        dueLoads("y1s0v9999l9l9l9l9l9l9", 4, ((1 * 5 + 2) * 5 + 3) * 5 + 4);
        NoonJars x = Check.land("y1s0v1111");
        CHECK.refused(27, x, "loads() without JARS", NoonJars.STATE, () -> x.loads());
    }

    private static void needs() {
        NoonJars x = Check.land("y1s0v9080l4l4l9u20");
        CHECK.tells(28, x, "needs(1)", x.needs(1), 1, 4);
        CHECK.tells(28, x, "needs(2): none", x.needs(2), 0, 0);
        CHECK.tells(28, x, "needs(3)", x.needs(3), 1, 4);
        NoonJars y = Check.land("y1s0v9989l4l4l4l4l1");
        CHECK.tells(28, y, "needs(1)", y.needs(1), 3, 7);
        CHECK.tells(28, y, "needs(3)", y.needs(3), 2, 3);
        NoonJars z = Check.land("y1s0v6007u20j3l1");
        CHECK.tells(28, z, "needs(1): 6 by the DUSK one", z.needs(1), 1, 1);
        CHECK.refused(28, z, "needs(4): never", NoonJars.NONE, () -> z.needs(4));
        CHECK.tells(28, z, "needs(3)", z.needs(3), 0, 0);
        CHECK.refused(28, z, "needs(0)", NoonJars.BAD, () -> z.needs(0));
        CHECK.refused(28, z, "needs(5)", NoonJars.BAD, () -> z.needs(5));
        NoonJars none = Check.land("y1s0v1000");
        CHECK.refused(28, none, "needs(1) without JARS", NoonJars.NONE, () -> none.needs(1));
        CHECK.tells(28, none, "needs(2) without JARS", none.needs(2), 0, 0);
    }

    private static int leftOf(int light, int h, int d) {
        int left = light;
        for (int day = 0; day < d; day++) {
            if (day > 0) {
                left -= (left + 9) / 10;
            }
            left -= h;
            if (left < 0) {
                return -1;
            }
        }
        return left;
    }

    private static void stores() {
        NoonJars x = new NoonJars();
        for (int h = 1; h <= 9; h++) {
            for (int d = 1; d <= 20; d++) {
                int least = 0;
                while (leftOf(least, h, d) < 0) {
                    least++;
                }
                CHECK.tells(29, x, "store(" + h + ", " + d + ")", x.store(h, d), least, leftOf(least, h, d));
            }
        }
        CHECK.refused(29, x, "store(0, 1)", NoonJars.BAD, () -> x.store(0, 1));
        CHECK.refused(29, x, "store(10, 1)", NoonJars.BAD, () -> x.store(10, 1));
        CHECK.refused(29, x, "store(1, 0)", NoonJars.BAD, () -> x.store(1, 0));
        CHECK.refused(29, x, "store(1, 21)", NoonJars.BAD, () -> x.store(1, 21));
    }
}
