import java.util.function.IntSupplier;

/** Boundary cases of promises 43 to 49: what is told. */
public final class ToldEdgesTest extends Edges {
    private static final int MARK = 123456;

    public static void main(String[] args) throws IllegalAccessException {
        runAll(ToldEdgesTest.class);
    }

    // ---- 43 asked

    private static void promise43NoughtBefore() {
        due("asked() of a new object", new NoonJars().asked(), 0);
        NoonJars x = new NoonJars();
        x.at(0, 0);
        x.jar(0, 0);
        x.best(0);
        due("asked(), all refused", x.asked(), 0);
    }

    /** A LAND in which all can be asked; ROW 0 has a number that nothing else tells, ROW 1 posts, ROW 2 seats. */
    private static NoonJars marked() {
        NoonJars x = Check.land("y6s1v1111j20j20j20");
        Check.fillRow(x, 0, MARK);
        Check.fillRow(x, 1, 20, 0);
        Check.fillRow(x, 2, 5, 3);
        x.fill(0);
        x.keep(0);
        x.at(0, 0);
        return x;
    }

    private static void dueAsked(NoonJars x, String call, IntSupplier calling, boolean told) {
        x.at(0, 0);
        int answer = calling.getAsInt();
        due(call + " is not refused", answer >= 0 ? 1 : 0, 1);
        due("asked() behind " + call + " is told anew", x.asked() != MARK ? 1 : 0, told ? 1 : 0);
    }

    private static void promise43TheseCallsTell() {
        NoonJars x = marked();
        dueAsked(x, "at(1, 0)", () -> x.at(1, 0), true);
        dueAsked(x, "lay(1, 0, 20)", () -> x.lay(1, 0, 20), true);
        dueAsked(x, "mean(1)", () -> x.mean(1), true);
        dueAsked(x, "jar(0, 0)", () -> x.jar(0, 0), true);
        dueAsked(x, "place(0, 0)", () -> x.place(0, 0), true);
        dueAsked(x, "brings(0, 1)", () -> x.brings(0, 1), true);
        dueAsked(x, "best(0)", () -> x.best(0), true);
        dueAsked(x, "loads()", () -> x.loads(), true);
        dueAsked(x, "needs(1)", () -> x.needs(1), true);
        dueAsked(x, "store(1, 1)", () -> x.store(1, 1), true);
        dueAsked(x, "pours(0, 20)", () -> x.pours(0, 20), true);
        dueAsked(x, "most(0)", () -> x.most(0), true);
        dueAsked(x, "mixed()", () -> x.mixed(), true);
        dueAsked(x, "sure()", () -> x.sure(), true);
        dueAsked(x, "test()", () -> x.test(), true);
        dueAsked(x, "theft(1, 0)", () -> x.theft(1, 0), true);
        dueAsked(x, "mirror(1, 1)", () -> x.mirror(1, 1), true);
        dueAsked(x, "pour(0, 1)", () -> x.pour(0, 1), true);
        dueAsked(x, "night()", () -> x.night(), true);
    }

    private static void promise43NoOtherCallTells() {
        NoonJars x = marked();
        dueAsked(x, "row(3, 1)", () -> x.row(3, 1), false);
        dueAsked(x, "copy(0, 0, 3, 0, 1)", () -> x.copy(0, 0, 3, 0, 1), false);
        dueAsked(x, "tear(3)", () -> x.tear(3), false);
        dueAsked(x, "text(3, 1)", () -> x.text(3, 1), false);
        dueAsked(x, "put(3, 0, 1)", () -> x.put(3, 0, 1), false);
        dueAsked(x, "fault(3)", () -> x.fault(3), false);
        dueAsked(x, "sun(0)", () -> x.sun(0), false);
        dueAsked(x, "fill(0)", () -> x.fill(0), false);
        dueAsked(x, "carry(2, 1)", () -> x.carry(2, 1), false);
        dueAsked(x, "spend(0, 1)", () -> x.spend(0, 1), false);
        dueAsked(x, "steal(0, 1)", () -> x.steal(0, 1), false);
        dueAsked(x, "undo()", () -> x.undo(), false);
        dueAsked(x, "keep(0)", () -> x.keep(0), false);
        dueAsked(x, "on(0)", () -> x.on(0), false);
        dueAsked(x, "way(0, 19, 3)", () -> x.way(0, 19, 3), false);
        dueAsked(x, "loss(0, 19)", () -> x.loss(0, 19), false);
        dueAsked(x, "burnt(1, 20)", () -> x.burnt(1, 20), false);
        dueAsked(x, "forget(0)", () -> x.forget(0), false);
        dueAsked(x, "seats(5, 2, 3)", () -> x.seats(5, 2, 3), false);
        dueAsked(x, "upper()", () -> (int) x.upper(), false);
        dueAsked(x, "lower()", () -> (int) x.lower(), false);
        dueAsked(x, "count(0)", () -> x.count(0), false);
        dueAsked(x, "finding()", () -> x.finding(), false);
        dueAsked(x, "findings(1)", () -> x.findings(1), false);
        dueAsked(x, "land(0)", () -> x.land(0), false);
        NoonJars clay = Check.land("y6s1v1111c20");
        Check.fillRow(clay, 0, MARK);
        dueAsked(clay, "mark(0, 1)", () -> clay.mark(0, 1), false);
        clay.digest();
        due("asked() behind digest()", clay.asked(), MARK);
    }

    private static void dueStill(NoonJars x, String call, int answer) {
        due(call + " is refused", answer < 0 ? 1 : 0, 1);
        due("asked() behind " + call, x.asked(), MARK);
    }

    private static void promise43WhatIsRefusedDoesNotTell() {
        NoonJars x = marked();
        dueStill(x, "at(0, 1)", x.at(0, 1));
        dueStill(x, "lay(0, 1, 5)", x.lay(0, 1, 5));
        dueStill(x, "mean(5)", x.mean(5));
        dueStill(x, "jar(3, 0)", x.jar(3, 0));
        dueStill(x, "place(5, 0)", x.place(5, 0));
        dueStill(x, "pour(1, 2)", x.pour(1, 2));
        dueStill(x, "brings(0, 5)", x.brings(0, 5));
        dueStill(x, "best(5)", x.best(5));
        dueStill(x, "needs(0)", x.needs(0));
        dueStill(x, "store(0, 1)", x.store(0, 1));
        dueStill(x, "pours(0, 21)", x.pours(0, 21));
        dueStill(x, "most(3)", x.most(3));
        x.burnt(1, 1);
        dueStill(x, "sure()", x.sure());
        dueStill(x, "test()", x.test());
        dueStill(x, "theft(1, 6)", x.theft(1, 6));
        dueStill(x, "mirror(1, 0)", x.mirror(1, 0));
        dueStill(x, "lots(0, 1)", x.lots(0, 1));
    }

    private static void promise43NoneDoesNotTell() {
        NoonJars x = Check.land("y6s0v0009j5j5");
        Check.fillRow(x, 1, 20, 20);
        Check.fillRow(x, 0, MARK);
        x.at(0, 0);
        dueStill(x, "needs(4)", x.needs(4));
        dueStill(x, "pours(0, 5)", x.pours(0, 5));
        dueStill(x, "theft(1, 0)", x.theft(1, 0));
        dueStill(x, "mirror(4, 1)", x.mirror(4, 1));
        x.burnt(1, 1);
        dueStill(x, "mixed()", x.mixed());
    }

    private static void promise43WithoutJarsNothingIsTold() {
        NoonJars x = Check.land("y6s0v0009");
        Check.fillRow(x, 0, MARK);
        x.at(0, 0);
        dueStill(x, "best(0)", x.best(0));
        dueStill(x, "loads()", x.loads());
        dueStill(x, "mixed()", x.mixed());
        dueStill(x, "sure()", x.sure());
        dueStill(x, "test()", x.test());
    }

    /** From 1 comes 48271, by 64 it is 754: the first lot is a night(); the lots ahead of a fill() tell nothing. */
    private static void promise43WhatLotsToldToo() {
        NoonJars x = Check.land("y1s1v1011j1j1");
        Check.fillRow(x, 0, MARK);
        x.at(0, 0);
        due("lots(1, 1)", x.lots(1, 1), 1);
        due("asked(): VALLEYS that were DARK", x.asked(), 3);
        int seed = 1;
        while ((long) seed * 48271 % 2147483647 / 64 % 5 != 0) {
            seed++;
        }
        x.at(0, 0);
        due("lots(1, " + seed + ")", x.lots(1, seed), 1);
        due("asked() behind fill()", x.asked(), MARK);
    }

    // ---- 44, 45 upper, lower

    private static void promise44NoughtWithoutJars() {
        due("upper() of a new object", new NoonJars().upper(), 0);
        due("upper() of a LAND without JARS", Check.land("y1s1v0000").upper(), 0);
    }

    private static void promise45OneWithoutJars() {
        due("lower() of a new object", new NoonJars().lower(), 1);
        due("lower() of a LAND without JARS", Check.land("y1s1v0000").lower(), 1);
    }

    private static void promise44AllEmptyAndAllFull() {
        NoonJars x = Check.land("y1s1v0000j20j20j20j20j20j20");
        due("upper(), all empty", x.upper(), 0);
        for (int k = 0; k < 6; k++) {
            x.fill(k);
        }
        due("upper(), all full", x.upper(), 1);
    }

    private static void promise45AllEmptyAndAllFull() {
        NoonJars x = Check.land("y1s1v0000j20j20j20j20j20j20");
        due("lower(), all empty: 0 by 120 in lowest terms", x.lower(), 1);
        for (int k = 0; k < 6; k++) {
            x.fill(k);
        }
        due("lower(), all full", x.lower(), 1);
    }

    private static int common(int a, int b) {
        return b == 0 ? a : common(b, a % b);
    }

    private static void promise44InLowestTerms() {
        for (int light = 0; light <= 20; light++) {
            due("upper() of " + light + " by 20", holding('j', 20, light).upper(), light / common(20, light));
        }
        NoonJars x = Check.land("y1s1v0000j1j20j20j20j20j20");
        x.fill(0);
        due("upper() of 1 by 101", x.upper(), 1);
    }

    private static void promise45InLowestTerms() {
        for (int light = 0; light <= 20; light++) {
            due("lower() of " + light + " by 20", holding('j', 20, light).lower(), 20 / common(20, light));
        }
        NoonJars x = Check.land("y1s1v0000j1j20j20j20j20j20");
        x.fill(0);
        due("lower() of 1 by 101", x.lower(), 101);
    }

    private static void promise44OfAllJarsWhereverTheyAre() {
        NoonJars x = Check.land("y6s1v0000j20j10");
        x.fill(0);
        x.carry(0, 1);
        due("upper()", x.upper(), 2);
        due("lower()", x.lower(), 3);
    }

    // ---- 46 count

    private static void promise46Bad() {
        NoonJars x = Check.land("y6s1v0000j20");
        badBeyond(x, "count()", 0, 9, what -> x.count(what));
    }

    private static void promise46JarsSealedOnesDawnOnes() {
        NoonJars x = Check.land("y6s1v0000l1l1l1l1l1l1");
        due("JARS", x.count(0), 6);
        due("SEALED ones: LIDDED, too", x.count(4), 6);
        due("DAWN ones", x.count(5), 0);
        NoonJars y = Check.land("y6s1v0000u1u1d1e1j1c1");
        due("SEALED ones", y.count(4), 1);
        due("DAWN ones: DUSK, too", y.count(5), 3);
    }

    private static void promise46LightOfAll() {
        NoonJars x = Check.land("y6s1v0000j20j20j20j20j20j20");
        due("LIGHT, all empty", x.count(1), 0);
        for (int k = 0; k < 6; k++) {
            x.fill(k);
        }
        x.carry(0, 1);
        due("LIGHT, all full", x.count(1), 120);
    }

    private static void promise46MulesThatAreLeftOnThisDay() {
        NoonJars x = Check.land("y2s1v0000j20");
        due("MULES left", x.count(3), 2);
        x.carry(0, 1);
        x.carry(0, 1);
        due("MULES left", x.count(3), 0);
        x.carry(0, 1);
        due("MULES left, behind what is refused", x.count(3), 0);
        x.undo();
        due("MULES left, behind undo()", x.count(3), 1);
        x.night();
        due("MULES left, on the next DAY", x.count(3), 2);
    }

    private static void promise46RowsAndTextsThatAreThere() {
        NoonJars x = new NoonJars();
        for (int r = 0; r < 6; r++) {
            due("ROWS", x.count(6), r);
            x.row(r, 0);
        }
        for (int t = 0; t < 4; t++) {
            due("TEXTS", x.count(7), t);
            x.text(t, 0);
        }
        due("ROWS", x.count(6), 6);
        due("TEXTS", x.count(7), 4);
        x.row(0, 5);
        x.text(0, 5);
        x.tear(5);
        due("ROWS", x.count(6), 5);
        due("TEXTS", x.count(7), 4);
    }

    private static void promise46DeedsKeptInMind() {
        NoonJars x = new NoonJars();
        for (int n = 0; n <= 65; n++) {
            due("DEEDS", x.count(8), Math.min(n, 60));
            x.night();
        }
    }

    private static void promise46BurntOnes() {
        NoonJars x = Check.land("y6s1v0000j20");
        for (int n = 0; n <= 9; n++) {
            due("BURNT ones", x.count(9), Math.min(n, 8));
            x.burnt(1, 20);
        }
    }

    // ---- 47, 48 finding, findings

    private static void promise47NoughtBeforeAny() {
        NoonJars x = new NoonJars();
        x.row(9, 0);
        x.undo();
        due("finding()", x.finding(), 0);
    }

    private static void promise47TheLatest() {
        NoonJars x = Check.land("y6s1v0000j20");
        x.tear(0);
        due("NOTHING", x.finding(), NOTHING);
        x.row(0, 0);
        due("it stays behind what is not refused", x.finding(), NOTHING);
        x.at(0, 0);
        due("BEYOND", x.finding(), BEYOND);
        x.mark(0, 1);
        due("UNLIKE", x.finding(), UNLIKE);
        x.mean(0);
        due("NOUGHT", x.finding(), NOUGHT);
        x.row(0, -1);
        due("SIZE", x.finding(), SIZE);
        x.row(9, -1);
        x.carry(0, 0);
        due("it stays behind BAD, STATE", x.finding(), SIZE);
        x.tear(1);
        due("NOTHING again", x.finding(), NOTHING);
    }

    private static void promise48HowOften() {
        NoonJars x = new NoonJars();
        for (int f = 1; f <= 5; f++) {
            due("findings(" + f + ") before", x.findings(f), 0);
        }
        for (int i = 1; i <= 100; i++) {
            x.tear(0);
            due("findings(1)", x.findings(1), i);
        }
        for (int f = 2; f <= 5; f++) {
            due("findings(" + f + ")", x.findings(f), 0);
        }
    }

    private static void promise48Bad() {
        NoonJars x = new NoonJars();
        badBeyond(x, "findings()", 1, 5, f -> x.findings(f));
    }

    // ---- 49 digest

    private static long digestOf(int... values) {
        long h = 17;
        for (int v : values) {
            h = 31 * h + v;
        }
        return h;
    }

    private static void promise49OfANewObject() {
        due("digest()", new NoonJars().digest(), digestOf(
            0, 0, 0, 0, 0, 0, 0, 0, 0, 0,
            0, 0, 0, 0, 0, 0, 0, 0, 0, 0, 0, 0, 0, 0, 0, 0, 0, 0, 0, 0,
            -1, -1, -1, -1, -1, -1, -1, -1, -1, -1, -1, -1, -1));
    }

    private static void promise49RowsOfNoneAreNotMissing() {
        NoonJars x = new NoonJars();
        x.row(0, 0);
        x.text(3, 0);
        due("digest()", x.digest(), digestOf(
            0, 0, 0, 0, 0, 0, 1, 1, 0, 0,
            0, 0, 0, 0, 0, 0, 0, 0, 0, 0, 0, 0, 0, 0, 0, 0, 0, 0, 0, 0,
            -1, -1, -1, 0, -1, -1, -1, -1, -1, -1, -1, -1, 0));
    }

    private static void promise49BytesBelowNoughtAndTheFarthestInts() {
        NoonJars x = new NoonJars();
        Check.fillRow(x, 5, LEAST, GREATEST);
        x.text(0, 2);
        x.put(0, 0, -128);
        due("digest()", x.digest(), digestOf(
            0, 0, 0, 0, 0, 0, 1, 1, 0, 0,
            0, 0, 0, 0, 0, 0, 0, 0, 0, 0, 0, 0, 0, 0, 0, 0, 0, 0, 0, 0,
            -1, -1, -1, -1, -1, -1, -1, -1, 2, LEAST, GREATEST, 2, -128, 32, -1, -1, -1));
    }

    private static void promise49BurntOnesAndKeptLands() {
        NoonJars x = Check.land("y2s1v0009j5");
        x.text(0, 0);
        x.keep(0);
        x.night();
        x.keep(2);
        x.burnt(1, 120);
        x.burnt(1, 0);
        due("digest()", x.digest(), digestOf(
            1, 0, 1, 2, 0, 0, 0, 1, 1, 2,
            0, 5, 0, 0, 0,
            0, 0, 0, 0, 0, 0, 0, 0, 0, 0, 0, 0, 0, 0, 0, 0, 9, 0, 1, 0,
            1, 120, 1, 0, 0, -1, 1,
            -1, -1, -1, -1, -1, -1, 0, -1, -1, -1));
    }

    private static void promise49FindingsAndAskedAreNoneOfIt() {
        NoonJars x = Check.land("y2s1v0009j5");
        long digest = x.digest();
        x.jar(0, 1);
        x.tear(0);
        due("digest()", x.digest(), digest);
        due("asked() stays", x.asked(), 5);
        due("finding() stays", x.finding(), NOTHING);
    }

    /** A fullest object: six JARS, eight BURNT ones, all kept, all ROWS and TEXTS sixty long. */
    private static void promise49OfAFullObject() {
        NoonJars x = Check.land("y6s1v0000j20j20j20j20j20j20");
        for (int k = 0; k < 6; k++) {
            x.fill(k);
            x.row(k, 60);
        }
        for (int t = 0; t < 4; t++) {
            x.text(t, 60);
        }
        for (int k = 0; k < 3; k++) {
            x.keep(k);
        }
        for (int b = 0; b < 8; b++) {
            x.burnt(63, 120);
        }
        int[] values = new int[10 + 30 + 20 + 16 + 3 + 6 * 61 + 4 * 61];
        int[] head = {6, 120, 0, 6, 0, 0, 6, 4, 6, 8};
        int at = put(values, 0, head);
        for (int k = 0; k < 6; k++) {
            at = put(values, at, 0, 20, 20, 0, 0);
        }
        at = put(values, at, 0, 0, 0, 120);
        at += 16;
        for (int b = 0; b < 8; b++) {
            at = put(values, at, 63, 120);
        }
        at += 3;
        for (int r = 0; r < 10; r++) {
            values[at] = 60;
            java.util.Arrays.fill(values, at + 1, at + 61, r < 6 ? 0 : 32);
            at += 61;
        }
        due("digest()", x.digest(), digestOf(values));
    }

    private static int put(int[] values, int at, int... more) {
        System.arraycopy(more, 0, values, at, more.length);
        return at + more.length;
    }
}
