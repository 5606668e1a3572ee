/** Boundary cases of promises 25 to 33: what JARS bring, a store for the winter, pourings. */
public final class BringEdgesTest extends Edges {
    public static void main(String[] args) throws IllegalAccessException {
        runAll(BringEdgesTest.class);
    }

    // ---- 25 brings

    private static void promise25ToTheMountainItBringsItsSize() {
        NoonJars x = Check.land("y6s1v0000j20c19d7u8");
        tells(x, "brings(0, 0)", x.brings(0, 0), 20, 20);
        tells(x, "brings(1, 0)", x.brings(1, 0), 19, 19);
        tells(x, "brings(2, 0): DAWN 7", x.brings(2, 0), 7, 3);
        tells(x, "brings(3, 0): DUSK 8", x.brings(3, 0), 8, 2);
    }

    private static void promise25TheSmallestLeakAway() {
        NoonJars x = Check.land("y6s1v0000j1c1e1d1l1u1");
        int[] want = {0, 0, 1, 0, 1, 0};
        for (int k = 0; k < 6; k++) {
            tells(x, "brings(" + k + ", 1)", x.brings(k, 1), want[k], want[k]);
        }
    }

    private static void promise25ToTheLastValley() {
        NoonJars x = Check.land("y6s1v0000j20c20e20d20l20u20");
        int[] light = {12, 7, 20, 12, 20, 12};
        int[] hours = {12, 7, 20, 6, 20, 4};
        for (int k = 0; k < 6; k++) {
            tells(x, "brings(" + k + ", 4)", x.brings(k, 4), light[k], hours[k]);
        }
    }

    private static void promise25SunOrNone() {
        NoonJars x = Check.land("y6s0v0000j20");
        tells(x, "brings(0, 1) without SUN", x.brings(0, 1), 18, 18);
        x.carry(0, 1);
        tells(x, "brings(0, 1) of one in a VALLEY", x.brings(0, 1), 18, 18);
        due("it stays as it is", x.count(1) + x.count(8), 1);
    }

    private static void promise25BadJars() {
        NoonJars x = Check.land("y6s0v0000j20j20");
        badBeyond(x, "brings( , 0)", 0, 1, k -> x.brings(k, 0));
    }

    private static void promise25BadPlaces() {
        NoonJars x = Check.land("y6s0v0000j20j20");
        badBeyond(x, "brings(0, )", 0, 4, p -> x.brings(0, p));
    }

    // ---- 26 best

    private static void promise26TheFirstOfThoseAlike() {
        NoonJars x = Check.land("y6s1v0000j5d20j10l10");
        tells(x, "best(0): 5, 10, 10, 10", x.best(0), 1, 10);
        tells(x, "best(1): 4, 9, 9, 10", x.best(1), 3, 10);
        NoonJars y = Check.land("y6s1v0000j5j5j5");
        tells(y, "best(4)", y.best(4), 0, 1);
    }

    private static void promise26ByHoursNotByLight() {
        NoonJars x = Check.land("y6s1v0000u20d18j10");
        tells(x, "best(0): 6, 9, 10", x.best(0), 2, 10);
    }

    private static void promise26NoHoursAtAll() {
        NoonJars x = Check.land("y6s1v0000u2d1j1");
        tells(x, "best(1): none gives any", x.best(1), 0, 0);
    }

    private static void promise26TheLastOfSix() {
        NoonJars x = Check.land("y6s1v0000j1j2j3j4j5j6");
        tells(x, "best(0)", x.best(0), 5, 6);
    }

    private static void promise26StateWithoutJars() {
        NoonJars x = Check.land("y6s1v0000");
        for (int p = 0; p <= 4; p++) {
            int one = p;
            refused(x, "best(" + p + ")", STATE, () -> x.best(one));
        }
    }

    private static void promise26Bad() {
        NoonJars x = Check.land("y6s1v0000j5");
        badBeyond(x, "best()", 0, 4, p -> x.best(p));
    }

    // ---- 27 loads

    private static void dueLoads(String text, int valleys, int figures) {
        NoonJars x = Check.land(text);
        long digest = x.digest();
        tells(x, "loads() of " + text, x.loads(), valleys, figures);
        due("digest()", x.digest(), digest);
    }

    private static void promise27OnlyValleysWithANeed() {
        dueLoads("y1s0v0000l20l20", 0, 0);
        dueLoads("y1s0v0010l20l20", 1, 3);
    }

    private static void promise27AsManyHoursAsTheNeedAndOneFewer() {
        dueLoads("y1s0v0009l9", 1, 4);
        dueLoads("y1s0v0009l8", 0, 0);
        dueLoads("y1s0v9000j10", 1, 1);
        dueLoads("y1s0v9000j9", 0, 0);
        dueLoads("y1s0v9000d20", 1, 1);
        dueLoads("y1s0v9000d19", 0, 0);
    }

    private static void promise27NoJarsWhereNoneIsLit() {
        dueLoads("y1s0v9999l2l2l2l2", 0, 0);
    }

    private static void promise27MostValleysAheadOfFewestJars() {
        dueLoads("y1s0v8800l9l4l4", 2, 1 * 25 + 2 * 5 + 2);
    }

    private static void promise27FewestJarsAheadOfLeastFigures() {
        dueLoads("y1s0v8000l9l4l4", 1, 1 * 25);
        dueLoads("y1s0v8000l4l4l9", 1, 1);
    }

    private static void promise27TheLeastFigures() {
        dueLoads("y1s0v5050l5", 1, 1);
        dueLoads("y1s0v5050l5l5", 2, 1 * 5 + 3);
        dueLoads("y1s0v0050l5l5l5", 1, 3);
    }

    private static void promise27SixJarsFourValleys() {
        dueLoads("y1s0v9999l9l9l9l9l9l9", 4, ((1 * 5 + 2) * 5 + 3) * 5 + 4);
        dueLoads("y1s0v9999l5l5l5l5l5l5", 3, ((((1 * 5 + 1) * 5 + 2) * 5 + 2) * 5 + 3) * 5 + 3);
    }

    private static void promise27TheGreatestFigures() {
        dueLoads("y1s0v0006l1l1l1l1l1l1", 1, 15624);
    }

    private static void promise27WhatWasAskedBeforeIsForgotten() {
        NoonJars x = Check.land("y1s0v1111l9l9l9l9");
        tells(x, "loads()", x.loads(), 4, ((1 * 5 + 2) * 5 + 3) * 5 + 4);
        Check.write(x, 1, "y1s0v9990l9l9");
        x.land(1);
        tells(x, "loads() of another LAND", x.loads(), 2, 1 * 5 + 2);
        Check.write(x, 1, "y1s0v9990l8");
        x.land(1);
        tells(x, "loads() of one that none lights", x.loads(), 0, 0);
    }

    /** JAR 0's figure is the highest of six. */
    private static void promise27TheHighestFigure() {
        dueLoads("y1s0v0009l9l1l1l1l1l1", 1, 4 * 3125);
    }

    private static void promise27WhateverMulesSunAndJarsAreNow() {
        NoonJars x = Check.land("y1s0v9000e9");
        x.carry(0, 1);
        tells(x, "loads()", x.loads(), 1, 1);
    }

    private static void promise27StateWithoutJars() {
        NoonJars x = Check.land("y1s0v1111");
        refused(x, "loads()", STATE, () -> x.loads());
        NoonJars y = new NoonJars();
        refused(y, "loads() of a new object", STATE, () -> y.loads());
    }

    // ---- 28 needs

    private static void promise28NoNeedNoJars() {
        NoonJars x = Check.land("y1s0v0101l5");
        tells(x, "needs(1)", x.needs(1), 0, 0);
        NoonJars y = Check.land("y1s0v0101");
        tells(y, "needs(3) without JARS", y.needs(3), 0, 0);
    }

    private static void promise28JustTheNeedAndOneFewer() {
        NoonJars x = Check.land("y1s0v8900l4l4");
        tells(x, "needs(1) of 8", x.needs(1), 2, 3);
        refused(x, "needs(2) of 9", NONE, () -> x.needs(2));
    }

    private static void promise28TheFewestAheadOfTheLeast() {
        NoonJars x = Check.land("y1s0v8000l4l4l9");
        tells(x, "needs(1)", x.needs(1), 1, 4);
    }

    private static void promise28TheLeastOfThoseAlike() {
        NoonJars x = Check.land("y1s0v8000l4l3l4l5l4");
        tells(x, "needs(1): 5, 9, 10, .. are as many", x.needs(1), 2, 5);
    }

    private static void promise28AllSix() {
        NoonJars x = Check.land("y1s0v6700l1l1l1l1l1l1");
        tells(x, "needs(1)", x.needs(1), 6, 63);
        refused(x, "needs(2)", NONE, () -> x.needs(2));
    }

    private static void promise28NoneWithoutJars() {
        NoonJars x = Check.land("y1s0v1000");
        refused(x, "needs(1)", NONE, () -> x.needs(1));
    }

    private static void promise28TheMountainIsBad() {
        NoonJars x = Check.land("y1s0v1000l5");
        refused(x, "needs(0)", BAD, () -> x.needs(0));
        badBeyond(x, "needs()", 1, 4, v -> x.needs(v));
    }

    // ---- 29 store

    private static void promise29OneDayHasNoNight() {
        NoonJars x = new NoonJars();
        for (int h = 1; h <= 9; h++) {
            tells(x, "store(" + h + ", 1)", x.store(h, 1), h, 0);
        }
    }

    /** One fewer would not be enough, though what is left at last may be more than nothing. */
    private static void promise29TheLeastThatIsEnough() {
        NoonJars x = new NoonJars();
        for (int h = 1; h <= 9; h++) {
            for (int d = 2; d <= 20; d++) {
                int least = x.store(h, d);
                due("left of store(" + h + ", " + d + ")", x.asked(), leftOf(least, h, d));
                due("enough", leftOf(least, h, d) >= 0 ? 1 : 0, 1);
                due("one fewer", leftOf(least - 1, h, d), -1);
            }
            x = new NoonJars();
        }
    }

    private static int leftOf(int light, int h, int d) {
        int left = light - h;
        for (int day = 1; day < d && left >= 0; day++) {
            left = left - (left + 9) / 10 - h;
        }
        return Math.max(left, -1);
    }

    private static void promise29TheMost() {
        NoonJars x = new NoonJars();
        due("store(9, 20)", x.store(9, 20), 612);
    }

    private static void promise29BadHours() {
        NoonJars x = new NoonJars();
        badBeyond(x, "store( , 1)", 1, 9, h -> x.store(h, 1));
    }

    private static void promise29BadDays() {
        NoonJars x = new NoonJars();
        badBeyond(x, "store(1, )", 1, 20, d -> x.store(1, d));
    }

    // ---- 30 pours

    private static NoonJars threeJars() {
        NoonJars x = Check.land("y6s1v0000j20j13j7");
        x.fill(0);
        return x;
    }

    private static void promise30NoneAreNeededWhereItHoldsJustSoMuch() {
        NoonJars x = threeJars();
        tells(x, "pours(0, 20)", x.pours(0, 20), 0, 0);
        tells(x, "pours(1, 0)", x.pours(1, 0), 0, 0);
        NoonJars y = Check.land("y6s1v0000j20");
        tells(y, "pours(0, 0) of one alone", y.pours(0, 0), 0, 0);
    }

    private static void promise30NeverIsNone() {
        NoonJars x = threeJars();
        refused(x, "pours(2, 8), above its SIZE", NONE, () -> x.pours(2, 8));
        refused(x, "pours(1, 20), above its SIZE", NONE, () -> x.pours(1, 20));
        refused(x, "pours(0, 19)", NONE, () -> x.pours(0, 19));
        NoonJars y = Check.land("y6s1v0000j20");
        refused(y, "pours(0, 1) of one alone", NONE, () -> y.pours(0, 1));
    }

    private static void promise30BadParts() {
        NoonJars x = threeJars();
        badBeyond(x, "pours(0, )", 0, 20, n -> x.pours(0, n));
    }

    private static void promise30BadJars() {
        NoonJars x = threeJars();
        badBeyond(x, "pours()", 0, 2, k -> x.pours(k, 0));
    }

    private static void promise30SpentByMoreThanThree() {
        NoonJars x = Check.land("y6s1v0000j5j5j5j5");
        refused(x, "pours(0, 0) of four", SPENT, () -> x.pours(0, 0));
        x.carry(3, 1);
        tells(x, "pours(0, 0) of three", x.pours(0, 0), 0, 0);
        tells(x, "pours(3, 0) of one alone", x.pours(3, 0), 0, 0);
        for (int k = 0; k < 3; k++) {
            x.carry(k, 1);
        }
        refused(x, "pours(0, 0) of four in a VALLEY", SPENT, () -> x.pours(0, 0));
    }

    private static void promise30OnlyTheJarsOfItsPlace() {
        NoonJars x = Check.land("y6s1v0000j10j10j9");
        x.fill(0);
        tells(x, "pours(2, 9)", x.pours(2, 9), 1, 1);
        x.carry(0, 1);
        refused(x, "pours(2, 9), for it is carried away", NONE, () -> x.pours(2, 9));
        refused(x, "pours(0, 0), alone", NONE, () -> x.pours(0, 0));
    }

    /** Into JAR 2 by JAR 0 or by JAR 1: 6 times 0 and 2 is ahead of 6 times 1 and 2, though more is spilt by it. */
    private static void promise30WhatIsSpiltByTheFirstRow() {
        NoonJars x = Check.land("y6s1v0000j20j10j9");
        x.fill(0);
        x.fill(1);
        tells(x, "pours(2, 9): 11 of JAR 0", x.pours(2, 9), 1, 2);
        due("loss(2, 9): 10 of JAR 1", x.loss(2, 9), 1);
    }

    private static void promise30AllStays() {
        NoonJars x = threeJars();
        long digest = x.digest();
        x.pours(2, 5);
        x.loss(2, 5);
        x.most(2);
        due("digest()", x.digest(), digest);
        due("OPENED", Check.ofJar(x, 0, 4), 0);
    }

    /** Each pouring spills 1 at least, so sixty are never too few: the longest that there are. */
    private static void promise30TheLongestRows() {
        NoonJars x = Check.land("y6s1v0000j20j20j20");
        x.fill(0);
        x.fill(1);
        int longest = 0;
        for (int n = 0; n <= 20; n++) {
            int pourings = x.pours(2, n);
            longest = Math.max(longest, pourings);
            due("way(2, " + n + ", 0)", x.way(2, n, 0), pourings);
            if (pourings >= 0) {
                due("at() of the last", x.at(0, pourings - 1) == 1 || pourings == 0 ? 1 : 0, 1);
                due("at() behind it", x.at(0, pourings), NoonJars.FINDING);
            }
        }
        due("more than a few", longest >= 3 ? 1 : 0, 1);
    }

    // ---- 31 way

    private static void promise31AnewThoughTheRowIsMissing() {
        NoonJars x = threeJars();
        due("way(2, 5, 5)", x.way(2, 5, 5), 3);
        dueRow(x, 5, 2, 13, 8);
        due("ROWS", x.count(6), 1);
    }

    private static void promise31AnewThoughTheRowIsLongerOrShorter() {
        NoonJars x = threeJars();
        x.row(0, 60);
        due("way(2, 5, 0)", x.way(2, 5, 0), 3);
        dueRow(x, 0, 2, 13, 8);
        x.row(0, 0);
        due("way(2, 5, 0)", x.way(2, 5, 0), 3);
        dueRow(x, 0, 2, 13, 8);
    }

    private static void promise31ARowOfNoPourings() {
        NoonJars x = threeJars();
        Check.fillRow(x, 0, 9, 9);
        due("way(0, 20, 0)", x.way(0, 20, 0), 0);
        finds(x, "at(0, 0)", BEYOND, () -> x.at(0, 0));
    }

    /** What the row says is poured, and JAR 2 holds just so much. */
    private static void promise31TheRowDoesIt() {
        for (int n = 0; n <= 7; n++) {
            NoonJars x = threeJars();
            int pourings = x.pours(2, n);
            int spilt = x.asked();
            due("way(2, " + n + ", 0)", x.way(2, n, 0), pourings);
            int light = x.count(1);
            for (int i = 0; i < pourings; i++) {
                int move = Check.placeOf(x, 0, i);
                due("pour()", x.pour(move / 6, move % 6) > 0 ? 1 : 0, 1);
            }
            if (pourings >= 0) {
                due("LIGHT of JAR 2", Check.ofJar(x, 2, 2), n);
                due("spilt", light - x.count(1), spilt);
            }
        }
    }

    private static void promise31NoneAndTheRowStays() {
        NoonJars x = threeJars();
        Check.fillRow(x, 0, 9, 9);
        refused(x, "way(2, 8, 0)", NONE, () -> x.way(2, 8, 0));
        dueRow(x, 0, 9, 9);
    }

    private static void promise31BadRows() {
        NoonJars x = threeJars();
        badBeyond(x, "way(0, 20, )", 0, 5, r -> x.way(0, 20, r));
    }

    private static void promise31BadParts() {
        NoonJars x = threeJars();
        badBeyond(x, "way(0, , 0)", 0, 20, n -> x.way(0, n, 0));
    }

    private static void promise31BadJars() {
        NoonJars x = threeJars();
        badBeyond(x, "way( , 0, 0)", 0, 2, k -> x.way(k, 0, 0));
    }

    private static void promise31SpentByMoreThanThree() {
        NoonJars x = Check.land("y6s1v0000j5j5j5j5");
        Check.fillRow(x, 0, 9, 9);
        refused(x, "way(0, 0, 0) of four", SPENT, () -> x.way(0, 0, 0));
        dueRow(x, 0, 9, 9);
        x.carry(3, 1);
        due("way(0, 0, 0) of three", x.way(0, 0, 0), 0);
    }

    // ---- 32 loss

    private static void promise32NothingIsSpiltWhereItHoldsJustSoMuch() {
        NoonJars x = threeJars();
        due("loss(0, 20)", x.loss(0, 20), 0);
        due("loss(1, 0)", x.loss(1, 0), 0);
    }

    /** By way of JAR 2, twice: 9 of JAR 0 are 8, these are 7 in JAR 1; 4 pourings, by each of which 1 is spilt. */
    private static void promise32TheLeastThoughByMorePourings() {
        NoonJars x = Check.land("y6s1v0000j20j20j8");
        x.fill(0);
        tells(x, "pours(1, 14)", x.pours(1, 14), 3, 6);
        due("loss(1, 14)", x.loss(1, 14), 4);
        due("asked() stays", x.asked(), 6);
    }

    private static void promise32NeverIsNone() {
        NoonJars x = threeJars();
        refused(x, "loss(2, 8)", NONE, () -> x.loss(2, 8));
        refused(x, "loss(0, 19)", NONE, () -> x.loss(0, 19));
    }

    private static void promise32BadParts() {
        NoonJars x = threeJars();
        badBeyond(x, "loss(0, )", 0, 20, n -> x.loss(0, n));
    }

    private static void promise32BadJars() {
        NoonJars x = threeJars();
        badBeyond(x, "loss()", 0, 2, k -> x.loss(k, 0));
    }

    private static void promise32SpentByMoreThanThree() {
        NoonJars x = Check.land("y6s1v0000j5j5j5j5");
        refused(x, "loss(0, 0) of four", SPENT, () -> x.loss(0, 0));
        x.carry(3, 1);
        due("loss(0, 0) of three", x.loss(0, 0), 0);
    }

    // ---- 33 most

    private static void promise33AJarAlone() {
        NoonJars x = Check.land("y6s1v0000j20");
        tells(x, "most(0), empty", x.most(0), 0, 1);
        x.fill(0);
        tells(x, "most(0), full", x.most(0), 20, 1);
    }

    private static void promise33AllEmptyOrAllFull() {
        NoonJars x = Check.land("y6s1v0000j20j20j20");
        tells(x, "most(0), all empty", x.most(0), 0, 1);
        for (int k = 0; k < 3; k++) {
            x.fill(k);
        }
        tells(x, "most(0), all full", x.most(0), 20, 1);
    }

    /** Of 2 one comes over, of 1 nothing: two states. */
    private static void promise33TheFewestStatesThatThereAre() {
        NoonJars x = Check.land("y6s1v0000j2j20");
        x.fill(0);
        tells(x, "most(1)", x.most(1), 1, 2);
        tells(x, "most(0)", x.most(0), 2, 2);
    }

    private static void promise33EachStateOnce() {
        NoonJars x = threeJars();
        tells(x, "most(0)", x.most(0), 20, 316);
        tells(x, "most(1)", x.most(1), 13, 316);
        tells(x, "most(2)", x.most(2), 7, 316);
    }

    private static void promise33WhatWasAskedBeforeIsForgotten() {
        NoonJars x = threeJars();
        x.most(0);
        x.carry(0, 1);
        x.steal(0, 18);
        tells(x, "most(0), alone with 2", x.most(0), 2, 1);
        due("loss(0, 5)", x.loss(0, 5), NONE);
        due("pours(0, 5)", x.pours(0, 5), NONE);
        tells(x, "most(1), both empty", x.most(1), 0, 1);
    }

    private static void promise33BadJars() {
        NoonJars x = threeJars();
        badBeyond(x, "most()", 0, 2, k -> x.most(k));
    }

    private static void promise33SpentByMoreThanThree() {
        NoonJars x = Check.land("y6s1v0000j5j5j5j5");
        refused(x, "most(0) of four", SPENT, () -> x.most(0));
        x.carry(3, 1);
        tells(x, "most(0) of three", x.most(0), 0, 1);
    }
}
