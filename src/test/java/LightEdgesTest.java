/** Boundary cases of promises 34 to 42: bad light, thefts, seats, mirrors, DAYS by lots. */
public final class LightEdgesTest extends Edges {
    public static void main(String[] args) throws IllegalAccessException {
        runAll(LightEdgesTest.class);
    }

    // ---- 34 burnt

    private static void promise34ItsNumber() {
        NoonJars x = Check.land("y1s0v0000j9j6");
        for (int i = 0; i < 8; i++) {
            due("burnt(3, " + i + ")", x.burnt(3, i), i);
        }
    }

    private static void promise34FullBehindEight() {
        NoonJars x = Check.land("y1s0v0000j9j6");
        for (int i = 0; i < 7; i++) {
            x.burnt(1, 9);
        }
        due("burnt(1, 9), the eighth", x.burnt(1, 9), 7);
        refused(x, "burnt(1, 9), the ninth", FULL, () -> x.burnt(1, 9));
        x.forget(7);
        due("burnt(1, 9), the eighth again", x.burnt(1, 9), 7);
    }

    private static void promise34NoJarIsBad() {
        NoonJars x = Check.land("y1s0v0000j9j6");
        refused(x, "burnt(0, 0)", BAD, () -> x.burnt(0, 0));
    }

    private static void promise34AJarThatIsNoneIsBad() {
        NoonJars x = Check.land("y1s0v0000j9j6");
        due("burnt(3, 0)", x.burnt(3, 0), 0);
        badBeyond(x, "burnt()", 1, 3, set -> x.burnt(set, 0));
        refused(x, "burnt(5, 0): JAR 0 and one that is none", BAD, () -> x.burnt(5, 0));
        NoonJars six = Check.land("y1s0v0000j9j6j1j1j1j1");
        due("burnt(63, 0)", six.burnt(63, 0), 0);
        refused(six, "burnt(64, 0)", BAD, () -> six.burnt(64, 0));
    }

    private static void promise34WithoutJarsAllIsBad() {
        NoonJars x = Check.land("y1s0v0000");
        for (int set = 0; set <= 2; set++) {
            int one = set;
            refused(x, "burnt(" + set + ", 0)", BAD, () -> x.burnt(one, 0));
        }
    }

    private static void promise34HoursAreZeroTo120() {
        NoonJars x = Check.land("y1s0v0000j9j6");
        due("burnt(1, 0)", x.burnt(1, 0), 0);
        due("burnt(1, 120)", x.burnt(1, 120), 1);
        badBeyond(x, "burnt(1, )", 0, 120, n -> x.burnt(1, n));
    }

    private static void promise34WhateverTheJarsHoldAndAre() {
        NoonJars x = Check.land("y1s0v0000u9c6");
        x.carry(0, 1);
        due("burnt(1, 9): 9 HOURS by a DUSK one in a VALLEY, empty", x.burnt(1, 9), 0);
        tells(x, "sure()", x.sure(), 0, 1);
        due("it stays", x.count(1) + x.count(8), 1);
    }

    private static void promise34HalfOfASizeIsCut() {
        for (int size = 1; size <= 20; size++) {
            NoonJars x = Check.land("y1s0v0000j" + size);
            x.burnt(1, size / 2);
            tells(x, "mixed(), half of " + size, x.mixed(), 1, 1);
            x.forget(0);
            x.burnt(1, size);
            tells(x, "mixed(), " + size, x.mixed(), 1, 0);
            x.forget(0);
            x.burnt(1, size / 2 + 1 == size ? size + 1 : size / 2 + 1);
            due("mixed(), neither", x.mixed(), NONE);
        }
    }

    // ---- 35 forget

    private static void promise35AsManyAsThereAreForgetsNone() {
        NoonJars x = Check.land("y1s0v0000j9j6");
        due("forget(0) of none", x.forget(0), 0);
        x.burnt(1, 9);
        x.burnt(2, 6);
        due("forget(2) of two", x.forget(2), 0);
        due("BURNT ones", x.count(9), 2);
    }

    private static void promise35FromANumberOn() {
        NoonJars x = Check.land("y1s0v0000j9j6");
        x.burnt(1, 9);
        x.burnt(2, 6);
        x.burnt(2, 3);
        due("forget(2)", x.forget(2), 1);
        tells(x, "mixed() by the first two", x.mixed(), 1, 0);
        due("forget(1)", x.forget(1), 1);
        tells(x, "mixed() by the first", x.mixed(), 2, 0);
        due("forget(0)", x.forget(0), 1);
        tells(x, "mixed() by none", x.mixed(), 4, 0);
    }

    private static void promise35AllEight() {
        NoonJars x = Check.land("y1s0v0000j9j6");
        for (int i = 0; i < 8; i++) {
            x.burnt(1, 9);
        }
        due("forget(8)", x.forget(8), 0);
        refused(x, "forget(9)", BAD, () -> x.forget(9));
        due("forget(0)", x.forget(0), 8);
    }

    private static void promise35Bad() {
        NoonJars x = Check.land("y1s0v0000j9j6");
        refused(x, "forget(1) of none", BAD, () -> x.forget(1));
        x.burnt(1, 9);
        badBeyond(x, "forget()", 0, 1, n -> x.forget(n));
    }

    // ---- 36 mixed

    private static void promise36AllSetsIfNothingWasBurnt() {
        for (int jars = 1; jars <= 6; jars++) {
            NoonJars x = Check.land("y1s0v0000" + "j5".repeat(jars));
            tells(x, "mixed() of " + jars, x.mixed(), 1 << jars, 0);
        }
    }

    private static void promise36TheLeastOfThem() {
        NoonJars x = Check.land("y1s0v0000j8j8j8");
        x.burnt(7, 16);
        tells(x, "mixed(): 3, 5, 6", x.mixed(), 3, 3);
        x.burnt(1, 8);
        tells(x, "mixed(): 6", x.mixed(), 1, 6);
    }

    private static void promise36NoneCanBe() {
        NoonJars x = Check.land("y1s0v0000j8j8");
        x.burnt(1, 7);
        refused(x, "mixed()", NONE, () -> x.mixed());
    }

    private static void promise36AllThatWasBurntCounts() {
        NoonJars x = Check.land("y1s0v0000j8j8");
        x.burnt(1, 8);
        for (int i = 0; i < 6; i++) {
            x.burnt(3, 12);
        }
        tells(x, "mixed()", x.mixed(), 1, 2);
        x.burnt(2, 8);
        refused(x, "mixed(), by the eighth", NONE, () -> x.mixed());
    }

    private static void promise36StateWithoutJars() {
        NoonJars x = Check.land("y1s0v0000");
        refused(x, "mixed()", STATE, () -> x.mixed());
        NoonJars y = new NoonJars();
        refused(y, "mixed() of a new object", STATE, () -> y.mixed());
    }

    // ---- 37 sure

    private static void promise37NothingIsSureAtFirst() {
        NoonJars x = Check.land("y1s0v0000j8j8");
        tells(x, "sure()", x.sure(), 0, 0);
    }

    private static void promise37AllIsSure() {
        NoonJars x = Check.land("y1s0v0000j20j20j20j20j20j20");
        x.burnt(63, 60);
        tells(x, "sure(), all have", x.sure(), 63, 0);
        x.forget(0);
        x.burnt(63, 120);
        tells(x, "sure(), none has", x.sure(), 0, 63);
    }

    private static void promise37SomeAreSure() {
        NoonJars x = Check.land("y1s0v0000j8j8j8j8");
        x.burnt(1, 4);
        x.burnt(2, 8);
        x.burnt(12, 12);
        tells(x, "sure(): JARS 2 and 3 are open", x.sure(), 1, 2);
    }

    private static void promise37WhatWasAskedBeforeIsForgotten() {
        NoonJars x = Check.land("y1s0v0000j8j8j8");
        tells(x, "sure()", x.sure(), 0, 0);
        x.burnt(7, 24);
        tells(x, "sure(), none has", x.sure(), 0, 7);
        x.forget(0);
        x.burnt(7, 12);
        tells(x, "sure(), all have", x.sure(), 7, 0);
    }

    private static void promise37NoughtOfNoSet() {
        NoonJars x = Check.land("y1s0v0000j8j8");
        x.burnt(1, 7);
        finds(x, "sure()", NOUGHT, () -> x.sure());
    }

    private static void promise37StateWithoutJars() {
        NoonJars x = Check.land("y1s0v0000");
        refused(x, "sure()", STATE, () -> x.sure());
    }

    // ---- 38 test

    private static void promise38OneJar() {
        NoonJars x = Check.land("y1s0v0000j1");
        tells(x, "test()", x.test(), 1, 1);
    }

    /** One set is left, whatever is burnt: no JAR at all can't be BURNT, so it is the first one alone. */
    private static void promise38OneSetIsLeft() {
        NoonJars x = Check.land("y1s0v0000j8j8");
        x.burnt(3, 16);
        tells(x, "test()", x.test(), 1, 1);
    }

    private static void promise38TheFewestThatTellAsMuch() {
        NoonJars x = Check.land("y1s0v0000j8j8j8");
        x.burnt(3, 12);
        x.burnt(4, 8);
        tells(x, "test() of 1, 2: JAR 0 alone tells", x.test(), 1, 1);
        NoonJars y = Check.land("y1s0v0000j5j9j20");
        y.burnt(3, 14);
        tells(y, "test() of 0, 4: JAR 2 alone tells", y.test(), 4, 1);
    }

    private static void promise38TheSecondAlone() {
        NoonJars x = Check.land("y1s0v0000j8j8");
        x.burnt(1, 8);
        tells(x, "test() of 0, 2", x.test(), 2, 1);
    }

    private static void promise38FewestLeftAheadOfFewestJars() {
        NoonJars x = Check.land("y1s0v0000j5j9");
        tells(x, "test(): both tell all, one alone a half", x.test(), 3, 1);
    }

    /** Both alike: 16, 12, 12, 8, so that two are left at most, as by one alone. */
    private static void promise38AtMostHoweverLongTheyBurn() {
        NoonJars x = Check.land("y1s0v0000j8j8");
        tells(x, "test()", x.test(), 1, 2);
    }

    private static void promise38TheLeastOfThoseAlike() {
        NoonJars x = Check.land("y1s0v0000j8j8j6");
        tells(x, "test(): 5 and 6 are as good", x.test(), 5, 2);
    }

    private static void promise38TheLongestBurning() {
        NoonJars x = Check.land("y1s0v0000j20j20j20j20j20j20");
        tells(x, "test() of six alike", x.test(), 31, 20);
    }

    private static void promise38NoughtOfNoSet() {
        NoonJars x = Check.land("y1s0v0000j8j8");
        x.burnt(1, 7);
        finds(x, "test()", NOUGHT, () -> x.test());
    }

    private static void promise38StateWithoutJars() {
        NoonJars x = Check.land("y1s0v0000");
        refused(x, "test()", STATE, () -> x.test());
    }

    // ---- 39 theft

    private static NoonJars posts(int... held) {
        NoonJars x = new NoonJars();
        Check.fillRow(x, 0, held);
        return x;
    }

    private static void promise39TheFirstAndTheLastPost() {
        NoonJars first = posts(20, 17);
        tells(first, "theft(0, 0) at the first post", first.theft(0, 0), 1, 1);
        NoonJars last = posts(20, 18, 16, 13);
        tells(last, "theft(0, 0) at the last post", last.theft(0, 0), 3, 1);
        NoonJars sixty = new NoonJars();
        sixty.row(0, 60);
        sixty.lay(0, 58, 20);
        tells(sixty, "theft(0, 4) at the sixtieth", sixty.theft(0, 4), 59, 20);
    }

    private static void promise39TheFirstOfSome() {
        NoonJars x = posts(20, 10, 1, 0);
        tells(x, "theft(0, 0)", x.theft(0, 0), 1, 8);
    }

    private static void promise39ByThePostAheadNotByTheFirst() {
        NoonJars x = posts(20, 20, 18, 16);
        refused(x, "theft(0, 0)", NONE, () -> x.theft(0, 0));
        NoonJars y = posts(5, 20, 17);
        tells(y, "theft(0, 0)", y.theft(0, 0), 2, 1);
    }

    private static void promise39JustWhatItShouldIsNone() {
        int[] tenths = {1, 2, 0, 1, 0, 1};
        for (int kind = 0; kind <= 5; kind++) {
            for (int held = 0; held <= 20; held++) {
                int due = held - (tenths[kind] * held + 9) / 10;
                due("theft() of " + held + ", " + due, posts(held, due).theft(0, kind), NONE);
                if (due < 20) {
                    due("theft() of more", posts(held, due + 1).theft(0, kind), NONE);
                }
                if (due > 0) {
                    NoonJars x = posts(held, due - 1);
                    tells(x, "theft() of one less", x.theft(0, kind), 1, 1);
                }
            }
        }
    }

    private static void promise39SizeOfFewerThanTwo() {
        NoonJars x = posts();
        finds(x, "theft() of no posts", SIZE, () -> x.theft(0, 0));
        NoonJars y = posts(20);
        finds(y, "theft() of one post", SIZE, () -> y.theft(0, 0));
        NoonJars z = posts(20, 18);
        refused(z, "theft() of two posts", NONE, () -> z.theft(0, 0));
    }

    private static void promise39UnlikeOfANumberThatIsNone() {
        for (int v : new int[] {-1, 21, LEAST, GREATEST}) {
            NoonJars x = posts(v, 0);
            finds(x, "theft() with " + v + " first", UNLIKE, () -> x.theft(0, 0));
            NoonJars y = posts(20, 1, v);
            finds(y, "theft() with " + v + " behind a theft", UNLIKE, () -> y.theft(0, 0));
        }
        NoonJars z = posts(20, 20, 0);
        tells(z, "theft() of 0 and 20", z.theft(0, 0), 2, 18);
    }

    private static void promise39SizeIsAheadOfUnlike() {
        NoonJars x = posts(21);
        finds(x, "theft() of one post, 21", SIZE, () -> x.theft(0, 0));
    }

    private static void promise39Nothing() {
        NoonJars x = new NoonJars();
        finds(x, "theft(5, 5)", NOTHING, () -> x.theft(5, 5));
    }

    private static void promise39BadRows() {
        NoonJars x = posts(20, 0);
        badBeyond(x, "theft( , 0)", 0, 5, r -> x.theft(r, 0));
    }

    private static void promise39BadKinds() {
        NoonJars x = posts(20, 0);
        badBeyond(x, "theft(0, )", 0, 5, kind -> x.theft(0, kind));
    }

    // ---- 40 seats

    private static void dueShares(int n, int[] seats, int... want) {
        NoonJars x = new NoonJars();
        Check.fillRow(x, 0, seats);
        int asked = x.asked();
        int greatest = 0;
        for (int part : want) {
            greatest = Math.max(greatest, part);
        }
        due("seats(" + n + ", 0, 5)", x.seats(n, 0, 5), greatest);
        due("asked() stays", x.asked(), asked);
        dueRow(x, 5, want);
        dueRow(x, 0, seats);
    }

    private static void promise40NoPartsAndNinetyNine() {
        dueShares(0, new int[] {5, 3}, 0, 0);
        dueShares(1, new int[] {5, 3}, 1, 0);
        dueShares(99, new int[] {1}, 99);
        dueShares(99, new int[] {99, 99, 99}, 33, 33, 33);
    }

    private static void promise40OneToSixNumbers() {
        dueShares(7, new int[] {99}, 7);
        dueShares(7, new int[] {1, 1, 1, 1, 1, 1}, 2, 1, 1, 1, 1, 1);
    }

    private static void promise40TheFirstOfThoseAlike() {
        dueShares(1, new int[] {3, 3}, 1, 0);
        dueShares(2, new int[] {4, 2}, 2, 0);
        dueShares(2, new int[] {2, 4}, 1, 1);
    }

    private static void promise40SeatsAreNotCut() {
        dueShares(2, new int[] {5, 3}, 1, 1);
        dueShares(2, new int[] {7, 3}, 2, 0);
        dueShares(3, new int[] {5, 2, 2}, 2, 1, 0);
    }

    private static void promise40WithoutSeatsNoParts() {
        dueShares(99, new int[] {0, 1, 0}, 0, 99, 0);
        dueShares(99, new int[] {0, 0, 0, 0, 0, 99}, 0, 0, 0, 0, 0, 99);
    }

    private static void promise40AnewThoughMissingLongerOrItself() {
        NoonJars x = new NoonJars();
        Check.fillRow(x, 0, 53, 24, 23);
        due("seats(8, 0, 1), missing", x.seats(8, 0, 1), 4);
        dueRow(x, 1, 4, 2, 2);
        x.row(2, 60);
        due("seats(8, 0, 2), longer", x.seats(8, 0, 2), 4);
        dueRow(x, 2, 4, 2, 2);
        due("seats(8, 0, 0), itself", x.seats(8, 0, 0), 4);
        dueRow(x, 0, 4, 2, 2);
    }

    private static void promise40SizeOfNoneOrMoreThanSix() {
        NoonJars x = posts();
        finds(x, "seats() of none", SIZE, () -> x.seats(1, 0, 1));
        NoonJars y = posts(1, 1, 1, 1, 1, 1, 1);
        finds(y, "seats() of seven", SIZE, () -> y.seats(1, 0, 1));
        NoonJars z = new NoonJars();
        z.row(0, 60);
        finds(z, "seats() of sixty", SIZE, () -> z.seats(1, 0, 1));
    }

    private static void promise40UnlikeOfANumberThatIsNone() {
        for (int v : new int[] {-1, 100, LEAST, GREATEST}) {
            NoonJars x = posts(v, 1);
            finds(x, "seats() with " + v + " first", UNLIKE, () -> x.seats(1, 0, 1));
            NoonJars y = posts(1, 1, 1, 1, 1, v);
            finds(y, "seats() with " + v + " last", UNLIKE, () -> y.seats(1, 0, 1));
        }
    }

    private static void promise40NoughtOfNoSeatsAtAll() {
        NoonJars x = posts(0);
        finds(x, "seats() of one without", NOUGHT, () -> x.seats(1, 0, 1));
        NoonJars y = posts(0, 0, 0, 0, 0, 0);
        finds(y, "seats() of no parts", NOUGHT, () -> y.seats(0, 0, 1));
        due("the other ROW is missing still", y.count(6), 1);
    }

    private static void promise40InThisOrder() {
        NoonJars x = posts(1, 1, 1, 1, 1, 1, 100);
        finds(x, "seats() of seven with 100", SIZE, () -> x.seats(1, 0, 1));
        NoonJars y = posts(0, -1, 1);
        finds(y, "seats() that are 0 in all", UNLIKE, () -> y.seats(1, 0, 1));
    }

    private static void promise40Nothing() {
        NoonJars x = new NoonJars();
        x.row(1, 1);
        finds(x, "seats(1, 0, 1)", NOTHING, () -> x.seats(1, 0, 1));
    }

    private static void promise40BadParts() {
        NoonJars x = posts(5, 3);
        badBeyond(x, "seats( , 0, 1)", 0, 99, n -> x.seats(n, 0, 1));
    }

    private static void promise40BadRows() {
        NoonJars x = posts(5, 3);
        badBeyond(x, "seats(1, , 1)", 0, 5, r -> x.seats(1, r, 1));
        badBeyond(x, "seats(1, 0, )", 0, 5, to -> x.seats(1, 0, to));
    }

    // ---- 41 mirror

    private static void promise41AfterTheFirstDay() {
        NoonJars x = Check.land("y1s1v9100");
        tells(x, "mirror(1, 1)", x.mirror(1, 1), 1, 1);
        tells(x, "mirror(1, 9): just as much", x.mirror(1, 9), 1, 1);
        tells(x, "mirror(1, 10): one more", x.mirror(1, 10), 2, 2);
        tells(x, "mirror(2, 1)", x.mirror(2, 1), 1, 1);
    }

    private static void promise41DarkDaysGiveNothing() {
        NoonJars x = Check.land("y1s00100v3000");
        tells(x, "mirror(1, 3)", x.mirror(1, 3), 3, 1);
        tells(x, "mirror(1, 4)", x.mirror(1, 4), 8, 2);
    }

    private static void promise41FromDayZeroOnWhateverTheDayIs() {
        NoonJars x = Check.land("y1s01v1000j5");
        x.night();
        tells(x, "mirror(1, 1)", x.mirror(1, 1), 2, 1);
        due("the DAY stays", x.count(2), 1);
    }

    private static void promise41TheDearestAndTheSlowest() {
        NoonJars x = Check.land("y1s1v9100");
        tells(x, "mirror(1, 999)", x.mirror(1, 999), 111, 111);
        tells(x, "mirror(2, 999)", x.mirror(2, 999), 999, 999);
        NoonJars y = Check.land("y1s00000001v1000");
        tells(y, "mirror(1, 999), a SUN in eight", y.mirror(1, 999), 7992, 999);
    }

    private static void promise41NeverWithoutNeedOrSun() {
        NoonJars x = Check.land("y1s1v0111");
        refused(x, "mirror(1, 1) without NEED", NONE, () -> x.mirror(1, 1));
        NoonJars y = Check.land("y1s00000000v9999");
        refused(y, "mirror(1, 1) without SUN", NONE, () -> y.mirror(1, 1));
    }

    private static void promise41TheMountainIsBad() {
        NoonJars x = Check.land("y1s1v1111");
        refused(x, "mirror(0, 1)", BAD, () -> x.mirror(0, 1));
        badBeyond(x, "mirror( , 1)", 1, 4, v -> x.mirror(v, 1));
    }

    private static void promise41BadCosts() {
        NoonJars x = Check.land("y1s1v1111");
        badBeyond(x, "mirror(1, )", 1, 999, c -> x.mirror(1, c));
    }

    // ---- 42 lots

    private static int doLot(NoonJars x, long lot, int jars) {
        int k = (int) (lot % jars);
        switch ((int) (lot / 64 % 5)) {
            case 0: return x.fill(k);
            case 1: return x.carry(k, 1);
            case 2: return x.spend(k, 1);
            case 3: return x.pour(k, k == jars - 1 ? 0 : k + 1);
            default: return x.night();
        }
    }

    /** By lots and by hand all is the same: what was done, told, kept in mind. */
    private static void dueLots(String text, int jars, int n, int seed) {
        NoonJars x = Check.land(text);
        NoonJars y = Check.land(text);
        int done = 0;
        long lot = seed;
        for (int i = 0; i < n; i++) {
            lot = lot * 48271 % 2147483647;
            done += doLot(y, lot, jars) >= 0 ? 1 : 0;
        }
        due("lots(" + n + ", " + seed + ") of " + text, x.lots(n, seed), done);
        due("digest()", x.digest(), y.digest());
        due("asked()", x.asked(), y.asked());
        for (int i = 0; i < done; i++) {
            due("undo()", x.undo(), y.undo());
        }
    }

    private static void promise42OneToFortyTimes() {
        for (int n : new int[] {1, 2, 39, 40}) {
            dueLots("y3s110v1110j12e9c7", 3, n, 4711);
        }
    }

    private static void promise42TheLeastAndTheGreatestSeed() {
        for (int seed : new int[] {1, 2, 2147483645, 2147483646}) {
            dueLots("y3s110v1110j12e9c7", 3, 40, seed);
        }
    }

    private static void promise42TwoJarsAndSix() {
        for (int seed = 1; seed <= 40; seed++) {
            dueLots("y2s1v1110j12e9", 2, 40, seed * 1000003);
            dueLots("y6s1v1110j12e9c7d20l3u20", 6, 40, seed * 1000003);
        }
    }

    private static void promise42WhatCantBeIsPassed() {
        NoonJars x = Check.land("y1s0v0000j5j5");
        int done = x.lots(40, 77);
        due("fill(), pour(), spend() can't be", x.count(1), 0);
        due("DEEDS", x.count(8), done);
        due("all of 40", done < 40 ? 1 : 0, 1);
        due("finding()", x.finding(), 0);
    }

    /** The last of two JARS is poured into the first: found by a seed whose first lot says so. */
    private static void promise42TheLastIsPouredIntoTheFirst() {
        int seed = 1;
        while ((long) seed * 48271 % 2147483647 % 3 != 2 || (long) seed * 48271 % 2147483647 / 64 % 5 != 3) {
            seed++;
        }
        NoonJars x = Check.land("y1s1v0000j20j20j20");
        x.fill(2);
        tells(x, "lots(1, " + seed + ")", x.lots(1, seed), 1, 2);
        due("LIGHT of JAR 0", Check.ofJar(x, 0, 2), 18);
        due("LIGHT of JAR 2", Check.ofJar(x, 2, 2), 0);
    }

    private static void promise42NightIsPassedOnDay999() {
        NoonJars x = Check.land("y1s1v1000j1j1");
        for (int seed = 1; seed < 200 && x.count(2) < 999; seed++) {
            x.lots(40, seed * 7919);
        }
        for (int seed = 1; seed <= 9; seed++) {
            x.lots(40, seed);
        }
        due("the DAY", x.count(2), 999);
    }

    private static void promise42TheseAreDeedsSixtyOfThem() {
        NoonJars x = Check.land("y6s1v0000j20j20");
        int done = 0;
        for (int seed = 1; seed <= 10; seed++) {
            done += x.lots(40, seed);
        }
        due("more than sixty", done > 60 ? 1 : 0, 1);
        due("DEEDS", x.count(8), 60);
    }

    private static void promise42StateOfFewerThanTwoJars() {
        NoonJars x = Check.land("y1s1v0000");
        refused(x, "lots(1, 1) without JARS", STATE, () -> x.lots(1, 1));
        NoonJars y = Check.land("y1s1v0000j5");
        refused(y, "lots(1, 1) of one", STATE, () -> y.lots(1, 1));
        NoonJars z = Check.land("y1s1v0000j5j5");
        due("lots(1, 1) of two", z.lots(1, 1), 1);
    }

    private static void promise42BadTimes() {
        NoonJars x = Check.land("y1s1v0000j5j5");
        badBeyond(x, "lots( , 1)", 1, 40, n -> x.lots(n, 1));
    }

    private static void promise42BadSeeds() {
        NoonJars x = Check.land("y1s1v0000j5j5");
        badBeyond(x, "lots(1, )", 1, 2147483646, seed -> x.lots(1, seed));
    }
}
