/** Promises 43 to 49: what is told. */
public final class ToldTest {
    private static final Check CHECK = new Check("ToldTest");

    public static void main(String[] args) {
        askedStays();
        parts();
        counts();
        findings();
        digests();
        CHECK.end();
    }

    private static void askedStays() {
        NoonJars x = Check.land("y6s1v1000j10j10");
        CHECK.due(43, "asked() before", x.asked(), 0);
        Check.fillRow(x, 0, 20, 5, 7);
        x.at(0, 2);
        CHECK.due(43, "asked() behind at()", x.asked(), 7);
        x.row(1, 3);
        x.copy(0, 0, 1, 0, 1);
        x.fill(0);
        x.carry(0, 1);
        x.spend(0, 1);
        x.steal(0, 1);
        x.undo();
        x.keep(0);
        x.on(0);
        x.mark(0, 1);
        x.sun(0);
        x.loss(0, 3);
        x.way(0, 9, 2);
        x.burnt(1, 5);
        x.forget(0);
        x.seats(3, 0, 3);
        x.upper();
        x.lower();
        x.count(1);
        x.digest();
        x.findings(1);
        x.tear(1);
        x.fault(0);
        x.mean(5);
        x.jar(7, 0);
        x.pour(0, 1);
        x.theft(4, 4);
        x.mirror(2, 1);
        CHECK.due(43, "asked() stays", x.asked(), 7);
        CHECK.tells(43, x, "theft(0, 0)", x.theft(0, 0), 1, 13);
        CHECK.tells(43, x, "mean(0)", x.mean(0), 1, 10);
        CHECK.tells(43, x, "night()", x.night(), 1, 0);
    }

    private static void dueParts(NoonJars x, long upper, long lower) {
        CHECK.due(44, "upper()", x.upper(), upper);
        CHECK.due(45, "lower()", x.lower(), lower);
    }

    private static void parts() {
        dueParts(new NoonJars(), 0, 1);
        dueParts(Check.land("y6s1v0000"), 0, 1);
        NoonJars x = Check.land("y6s1v0000j20d7l3");
        dueParts(x, 0, 1);
        x.fill(0);
        dueParts(x, 2, 3);
        x.fill(1);
        dueParts(x, 9, 10);
        x.spend(0, 4);
        dueParts(x, 23, 30);
        x.spend(0, 16);
        dueParts(x, 7, 30);
        x.fill(0);
        x.fill(2);
        dueParts(x, 1, 1);
        NoonJars y = Check.land("y6s1v0000j20j20j20j20j20j20");
        y.fill(3);
        dueParts(y, 1, 6);
    }

    private static void counts() {
        NoonJars x = Check.land("y5s1v0000j20c9e7d6l3u4");
        x.fill(0);
        x.fill(2);
        x.carry(0, 1);
        x.carry(2, 1);
        x.row(0, 0);
        x.row(5, 5);
        x.text(3, 0);
        x.burnt(1, 1);
        int[] want = {6, 27, 0, 3, 2, 2, 2, 2, 4, 1};
        for (int what = 0; what <= 9; what++) {
            CHECK.due(46, "count(" + what + ")", x.count(what), want[what]);
        }
        x.night();
        CHECK.due(46, "the DAY", x.count(2), 1);
        CHECK.due(46, "MULES", x.count(3), 5);
        CHECK.due(46, "DEEDS", x.count(8), 5);
        CHECK.refused(46, x, "count(10)", NoonJars.BAD, () -> x.count(10));
        CHECK.refused(46, x, "count(-1)", NoonJars.BAD, () -> x.count(-1));
    }

    private static void findings() {
        NoonJars x = Check.land("y5s1v0000j20");
        CHECK.due(47, "finding() before", x.finding(), 0);
        for (int f = 1; f <= 5; f++) {
            CHECK.due(48, "findings(" + f + ") before", x.findings(f), 0);
        }
        x.tear(0);
        CHECK.due(47, "NOTHING", x.finding(), 1);
        x.row(0, 0);
        x.at(0, 0);
        CHECK.due(47, "BEYOND", x.finding(), 2);
        x.mark(0, 1);
        CHECK.due(47, "UNLIKE", x.finding(), 3);
        x.mean(0);
        CHECK.due(47, "NOUGHT", x.finding(), 4);
        x.row(0, -1);
        CHECK.due(47, "SIZE", x.finding(), 5);
        x.at(0, 0);
        x.at(9, 0);
        CHECK.due(47, "BEYOND, not changed by BAD", x.finding(), 2);
        int[] want = {0, 1, 2, 1, 1, 1};
        for (int f = 1; f <= 5; f++) {
            CHECK.due(48, "findings(" + f + ")", x.findings(f), want[f]);
        }
        CHECK.refused(48, x, "findings(0)", NoonJars.BAD, () -> x.findings(0));
        CHECK.refused(48, x, "findings(6)", NoonJars.BAD, () -> x.findings(6));
        CHECK.refused(48, x, "findings(-1)", NoonJars.BAD, () -> x.findings(-1));
    }

    private static long digestOf(int... values) {
        long h = 17;
        for (int v : values) {
            h = 31 * h + v;
        }
        return h;
    }

    private static void digests() {
        CHECK.due(49, "digest() of a new object", new NoonJars().digest(), digestOf(
            0, 0, 0, 0, 0, 0, 0, 0, 0, 0,
            0, 0, 0, 0, 0, 0, 0, 0, 0, 0, 0, 0, 0, 0, 0, 0, 0, 0, 0, 0,
            -1, -1, -1, -1, -1, -1, -1, -1, -1, -1, -1, -1, -1));
        NoonJars x = Check.land("y3s1v1009d9e7");
        x.fill(0);
        x.carry(0, 1);
        x.spend(0, 2);
        x.night();
        x.keep(1);
        x.fill(1);
        x.spend(1, 3);
        x.carry(0, 1);
        x.burnt(3, 12);
        x.burnt(1, 4);
        Check.fillRow(x, 2, 5, -6);
        x.row(4, 0);
        Check.write(x, 3, "a b");
        x.put(3, 1, 200);
        int asked = x.asked();
        CHECK.due(49, "digest()", x.digest(), digestOf(
            2, 8, 1, 2, 1, 1, 2, 2, 7, 2,
            3, 9, 4, 2, 1, 2, 7, 4, 0, 1,
            0, 3, 0, 4, 1, 0, 0, 0, 0, 0, 0, 4, 0, 0, 0, 0, 9, 0, 1, 0,
            3, 12, 1, 4, -1, 1, -1,
            -1, -1, 2, 5, -6, -1, 0, -1,
            13, 'y', '3', 's', '1', 'v', '1', '0', '0', '9', 'd', '9', 'e', '7', -1, -1, 3, 'a', -56, 'b'));
        CHECK.due(49, "asked() stays", x.asked(), asked);
    }
}
