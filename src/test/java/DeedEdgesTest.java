/** Boundary cases of promises 16 to 24: DEEDS, how they are undone, LANDS that are kept. */
public final class DeedEdgesTest extends Edges {
    public static void main(String[] args) throws IllegalAccessException {
        runAll(DeedEdgesTest.class);
    }

    /** A LAND with two JARS on DAY 999; by lots, for an object is used for 512 calls at most. */
    private static NoonJars onTheLastDay() {
        NoonJars x = Check.land("y1s1v1000j1j1");
        for (int seed = 1; seed < 200 && x.count(2) < 999; seed++) {
            x.lots(40, seed * 7919);
        }
        due("the last DAY", x.count(2), 999);
        return x;
    }

    // ---- 16 fill

    private static void promise16HowMuchCameToIt() {
        NoonJars x = Check.land("y6s1v0000j20");
        due("fill(0), empty", x.fill(0), 20);
        due("fill(0), full", x.fill(0), 0);
        x.steal(0, 1);
        due("fill(0), 1 less", x.fill(0), 1);
        due("DEEDS", x.count(8), 4);
        due("LIGHT", x.count(1), 20);
    }

    private static void promise16TheSmallestJar() {
        NoonJars x = Check.land("y6s1v0000j1");
        due("fill(0)", x.fill(0), 1);
    }

    private static void promise16Bad() {
        NoonJars x = Check.land("y6s1v0000j5j5j5");
        badBeyond(x, "fill()", 0, 2, k -> x.fill(k));
    }

    private static void promise16StateIfItIsNotOnTheMountain() {
        NoonJars x = Check.land("y6s1v0000j5");
        for (int p = 1; p <= 4; p++) {
            x.carry(0, 1);
            refused(x, "fill(0) in VALLEY " + p, STATE, () -> x.fill(0));
        }
    }

    private static void promise16StateIfThereIsNoSun() {
        NoonJars x = Check.land("y6s01v0000j5");
        refused(x, "fill(0) on DAY 0", STATE, () -> x.fill(0));
        x.night();
        due("fill(0) on DAY 1", x.fill(0), 5);
        x.night();
        refused(x, "fill(0) on DAY 2", STATE, () -> x.fill(0));
    }

    // ---- 17 carry

    private static void promise17FromEndToEnd() {
        NoonJars x = Check.land("y4s1v0000j5");
        for (int p = 1; p <= 4; p++) {
            due("carry(0, 1)", x.carry(0, 1), p);
        }
        x.night();
        for (int p = 3; p >= 0; p--) {
            due("carry(0, 0)", x.carry(0, 0), p);
        }
        due("PLACE", Check.ofJar(x, 0, 3), 0);
    }

    private static void promise17BadJars() {
        NoonJars x = Check.land("y6s1v0000j5j5");
        badBeyond(x, "carry( , 1)", 0, 1, k -> x.carry(k, 1));
    }

    private static void promise17BadWays() {
        NoonJars x = Check.land("y6s1v0000j5j5");
        x.carry(0, 1);
        badBeyond(x, "carry(0, )", 0, 1, on -> x.carry(0, on));
    }

    private static void promise17StateIfThereIsNoSuchPlace() {
        NoonJars x = Check.land("y6s1v0000j5");
        refused(x, "carry(0, 0) from the MOUNTAIN", STATE, () -> x.carry(0, 0));
        for (int i = 0; i < 4; i++) {
            x.carry(0, 1);
        }
        refused(x, "carry(0, 1) from VALLEY 4", STATE, () -> x.carry(0, 1));
        due("MULES left", x.count(3), 2);
    }

    private static void promise17StateIfAllMulesWent() {
        NoonJars x = Check.land("y1s1v0000j5j5");
        due("carry(0, 1)", x.carry(0, 1), 1);
        refused(x, "carry(1, 1)", STATE, () -> x.carry(1, 1));
        refused(x, "carry(0, 0)", STATE, () -> x.carry(0, 0));
        due("undo()", x.undo(), 1);
        due("carry(1, 1), for the MULE is back", x.carry(1, 1), 1);
    }

    // ---- 18 pour

    private static NoonJars twoJars(int size, int other) {
        NoonJars x = Check.land("y6s1v0000j" + size + "j" + other);
        x.fill(0);
        return x;
    }

    private static void promise18IntoItselfIsBad() {
        NoonJars x = twoJars(20, 20);
        refused(x, "pour(0, 0)", BAD, () -> x.pour(0, 0));
        refused(x, "pour(1, 1)", BAD, () -> x.pour(1, 1));
    }

    private static void promise18BadFrom() {
        NoonJars x = twoJars(20, 20);
        badBeyond(x, "pour( , 0)", 0, 1, k -> x.pour(k, 0));
    }

    private static void promise18BadInto() {
        NoonJars x = twoJars(20, 20);
        badBeyond(x, "pour(0, )", 0, 1, j -> x.pour(0, j));
    }

    private static void promise18StateIfNotAtTheSamePlace() {
        NoonJars x = twoJars(20, 20);
        x.carry(1, 1);
        refused(x, "pour(0, 1)", STATE, () -> x.pour(0, 1));
        x.carry(0, 1);
        tells(x, "pour(0, 1) in VALLEY 1", x.pour(0, 1), 18, 2);
        x.carry(0, 1);
        refused(x, "pour(1, 0), a PLACE on", STATE, () -> x.pour(1, 0));
    }

    private static void promise18StateIfNothingCanComeOver() {
        NoonJars x = twoJars(20, 20);
        refused(x, "pour(1, 0), from an empty one into a full one", STATE, () -> x.pour(1, 0));
        x.steal(0, 19);
        refused(x, "pour(0, 1) of 1: all would be spilt", STATE, () -> x.pour(0, 1));
        x.fill(0);
        x.fill(1);
        refused(x, "pour(0, 1) into a full one", STATE, () -> x.pour(0, 1));
        x.steal(0, 20);
        x.steal(1, 20);
        refused(x, "pour(0, 1), both empty", STATE, () -> x.pour(0, 1));
    }

    private static void promise18TheLeastThatComesOver() {
        NoonJars x = twoJars(2, 20);
        tells(x, "pour() of 2", x.pour(0, 1), 1, 1);
        NoonJars y = twoJars(20, 1);
        tells(y, "pour() into room 1", y.pour(0, 1), 1, 1);
        due("LIGHT left", Check.ofJar(y, 0, 2), 18);
    }

    /** Of 10 9 come over, of 11 9 as well: into room 9 goes 11, so that 2 are spilt. */
    private static void promise18TheMostOfWhichThereIsRoom() {
        NoonJars x = twoJars(20, 9);
        tells(x, "pour() into room 9", x.pour(0, 1), 9, 2);
        due("LIGHT left", Check.ofJar(x, 0, 2), 9);
        NoonJars y = twoJars(10, 9);
        tells(y, "pour() of 10 into room 9", y.pour(0, 1), 9, 1);
        NoonJars z = twoJars(20, 18);
        tells(z, "pour() of 20 into room 18", z.pour(0, 1), 18, 2);
    }

    private static void promise18BothAreOpened() {
        NoonJars x = twoJars(20, 20);
        x.pour(0, 1);
        due("OPENED", Check.ofJar(x, 0, 4), 1);
        due("OPENED", Check.ofJar(x, 1, 4), 1);
        NoonJars y = twoJars(1, 20);
        y.pour(0, 1);
        due("OPENED by what is refused", Check.ofJar(y, 0, 4) + Check.ofJar(y, 1, 4), 0);
    }

    // ---- 19 spend

    private static void promise19BadHours() {
        NoonJars x = holding('j', 20, 20);
        badBeyond(x, "spend(0, )", 1, 20, n -> x.spend(0, n));
    }

    private static void promise19BadJars() {
        NoonJars x = holding('j', 20, 20);
        badBeyond(x, "spend()", 0, 0, k -> x.spend(k, 1));
    }

    private static void promise19OneHourAndTwenty() {
        due("spend(0, 1) of 1", holding('j', 1, 1).spend(0, 1), 0);
        due("spend(0, 20) of 20", holding('j', 20, 20).spend(0, 20), 0);
        due("spend(0, 1) of 20", holding('j', 20, 20).spend(0, 1), 19);
    }

    private static void promise19StateIfItGivesFewer() {
        NoonJars x = holding('j', 20, 19);
        refused(x, "spend(0, 20) of 19", STATE, () -> x.spend(0, 20));
        NoonJars y = holding('d', 20, 1);
        refused(y, "spend(0, 1) of DAWN 1", STATE, () -> y.spend(0, 1));
        NoonJars z = holding('u', 20, 2);
        refused(z, "spend(0, 1) of DUSK 2", STATE, () -> z.spend(0, 1));
        NoonJars none = holding('j', 20, 0);
        refused(none, "spend(0, 1) of an empty one", STATE, () -> none.spend(0, 1));
    }

    private static void promise19DawnAndDuskGiveAsManyAsTheyCan() {
        NoonJars x = holding('d', 20, 20);
        refused(x, "spend(0, 11) of DAWN 20", STATE, () -> x.spend(0, 11));
        due("spend(0, 10) of DAWN 20", x.spend(0, 10), 0);
        NoonJars y = holding('u', 20, 20);
        refused(y, "spend(0, 7) of DUSK 20", STATE, () -> y.spend(0, 7));
        due("spend(0, 6) of DUSK 20", y.spend(0, 6), 2);
        due("HOURS, not LIGHT", Check.ofPlace(y, 0, 1), 6);
    }

    // ---- 20 steal

    private static void promise20BadParts() {
        NoonJars x = holding('j', 20, 20);
        badBeyond(x, "steal(0, )", 1, 20, n -> x.steal(0, n));
    }

    private static void promise20BadJars() {
        NoonJars x = holding('j', 20, 20);
        badBeyond(x, "steal()", 0, 0, k -> x.steal(k, 1));
    }

    private static void promise20OneAndAll() {
        due("steal(0, 1) of 20", holding('j', 20, 20).steal(0, 1), 19);
        due("steal(0, 20) of 20", holding('j', 20, 20).steal(0, 20), 0);
        due("steal(0, 1) of DUSK 1", holding('u', 1, 1).steal(0, 1), 0);
    }

    private static void promise20StateIfItHoldsLess() {
        NoonJars x = holding('j', 20, 19);
        refused(x, "steal(0, 20) of 19", STATE, () -> x.steal(0, 20));
        NoonJars y = holding('j', 20, 0);
        refused(y, "steal(0, 1) of 0", STATE, () -> y.steal(0, 1));
    }

    private static void promise20StateIfItIsLidded() {
        NoonJars x = holding('l', 20, 20);
        refused(x, "steal(0, 1) of LIDDED", STATE, () -> x.steal(0, 1));
        x.spend(0, 1);
        refused(x, "steal(0, 1) of LIDDED, OPENED", STATE, () -> x.steal(0, 1));
        due("steal(0, 1) of SEALED", holding('e', 20, 20).steal(0, 1), 19);
    }

    private static void promise20ItIsNotOpenedByIt() {
        NoonJars x = holding('e', 20, 20);
        x.steal(0, 20);
        due("OPENED", Check.ofJar(x, 0, 4), 0);
        due("HOURS", Check.ofPlace(x, 0, 1), 0);
        x.fill(0);
        x.spend(0, 1);
        x.steal(0, 1);
        due("OPENED before, it stays so", Check.ofJar(x, 0, 4), 1);
    }

    // ---- 21 night

    private static void promise21WithoutJarsNothingLeaks() {
        NoonJars x = Check.land("y1s1v1010");
        tells(x, "night()", x.night(), 0, 2);
    }

    private static void promise21WhatLeakedInAllAndWasDark() {
        NoonJars x = Check.land("y6s1v1111j20c20e20d20l20u20");
        for (int k = 0; k < 6; k++) {
            x.fill(k);
        }
        tells(x, "night()", x.night(), 2 + 4 + 0 + 2 + 0 + 2, 4);
        tells(x, "night()", x.night(), 2 + 4 + 0 + 2 + 0 + 2, 4);
        tells(x, "night()", x.night(), 2 + 3 + 0 + 2 + 0 + 2, 4);
    }

    private static void promise21JarsLeakWhereverTheyAre() {
        for (int p = 0; p <= 4; p++) {
            NoonJars x = holding('j', 20, 20);
            for (int i = 0; i < p; i++) {
                x.carry(0, 1);
            }
            due("night() in PLACE " + p, x.night(), 2);
        }
    }

    private static void promise21TheNextDayHasAllMulesAndNoHours() {
        NoonJars x = Check.land("y1s1v0000j20");
        x.fill(0);
        x.carry(0, 1);
        x.spend(0, 1);
        due("MULES left", x.count(3), 0);
        x.night();
        due("MULES left", x.count(3), 1);
        due("HOURS", Check.ofPlace(x, 1, 1), 0);
        due("the DAY", x.count(2), 1);
    }

    private static void promise21FullOnDay999() {
        NoonJars x = onTheLastDay();
        refused(x, "night()", FULL, () -> x.night());
    }

    private static void promise21FromDay998ToDay999() {
        NoonJars x = onTheLastDay();
        while (x.count(2) == 999) {
            x.undo();
        }
        due("the DAY", x.count(2), 998);
        due("night()", Math.min(x.night(), 0), 0);
        due("the DAY", x.count(2), 999);
        refused(x, "night()", FULL, () -> x.night());
    }

    // ---- 22 undo

    private static void promise22NoneIsKeptInMind() {
        NoonJars x = new NoonJars();
        refused(x, "undo() of a new object", STATE, () -> x.undo());
        NoonJars y = Check.land("y6s1v0000j20");
        refused(y, "undo() of a new LAND", STATE, () -> y.undo());
        y.fill(0);
        y.undo();
        refused(y, "undo() again", STATE, () -> y.undo());
    }

    /** Each sort of DEED: its number, and all is as it was ahead of it. */
    private static void promise22EachSortIsUndone() {
        NoonJars x = Check.land("y6s1v1203j11c11e11");
        long[] digests = new long[6];
        for (int sort = 0; sort < 6; sort++) {
            digests[sort] = x.digest();
            due("a DEED of sort " + sort, doSort(x, sort) >= 0 ? 1 : 0, 1);
        }
        for (int sort = 5; sort >= 0; sort--) {
            due("undo()", x.undo(), sort);
            due("digest() behind it", x.digest(), digests[sort]);
        }
    }

    private static int doSort(NoonJars x, int sort) {
        switch (sort) {
            case 0: return x.fill(0);
            case 1: return x.carry(1, 1);
            case 2: return x.pour(0, 2);
            case 3: return x.spend(2, 2);
            case 4: return x.steal(2, 1);
            default: return x.night();
        }
    }

    /** Six JARS, each PLACE, each with numbers of its own. */
    private static NoonJars fullLand() {
        NoonJars x = Check.land("y6s1v1211j20j19j18j17j16j15");
        for (int k = 0; k < 6; k++) {
            x.fill(k);
        }
        x.spend(0, 2);
        int[][] carried = {{5, 5, 5, 5, 4, 4}, {4, 3, 3, 2, 1, 1}};
        for (int[] jars : carried) {
            for (int k : jars) {
                x.carry(k, 1);
            }
            if (x.count(2) == 0) {
                x.spend(5, 1);
            }
            x.night();
        }
        x.carry(4, 1);
        for (int k = 1; k < 6; k++) {
            x.spend(k, k);
        }
        x.spend(2, 3);
        return x;
    }

    private static void promise22OfSixJarsAndAllPlaces() {
        NoonJars x = fullLand();
        long digest = x.digest();
        for (int sort = 1; sort < 6; sort++) {
            int done = sort == 1 ? x.carry(5, 0) : sort == 2 ? x.pour(1, 3) : sort == 3 ? x.spend(5, 1)
                : sort == 4 ? x.steal(5, 1) : x.night();
            due("a DEED of sort " + sort, done >= 0 ? 1 : 0, 1);
            due("undo()", x.undo(), sort);
            due("digest()", x.digest(), digest);
        }
    }

    private static void promise22OpenedIsUndoneToo() {
        NoonJars x = holding('e', 20, 20);
        x.spend(0, 1);
        x.fill(0);
        x.undo();
        due("OPENED, for the fill() is undone", Check.ofJar(x, 0, 4), 1);
        due("night() leaks again", x.night(), 2);
        x.undo();
        x.undo();
        due("OPENED, for the spend() is undone", Check.ofJar(x, 0, 4), 0);
        due("night()", x.night(), 0);
    }

    private static void promise22ANightBroughtBackHasItsHoursMulesDarkDays() {
        NoonJars x = Check.land("y2s1v3000j20");
        x.fill(0);
        x.carry(0, 1);
        x.spend(0, 2);
        x.night();
        x.undo();
        due("HOURS", Check.ofPlace(x, 1, 1), 2);
        due("MULES left", x.count(3), 1);
        due("DAYS that it was DARK", Check.ofPlace(x, 1, 2), 0);
        x.spend(0, 1);
        tells(x, "night(), not DARK now", x.night(), 2, 0);
    }

    private static void promise22WhatIsNoDeedStays() {
        NoonJars x = Check.land("y6s1v0000j20j20");
        x.fill(0);
        x.burnt(1, 20);
        Check.fillRow(x, 0, 5);
        x.night();
        x.keep(0);
        x.at(0, 0);
        x.undo();
        x.undo();
        due("BURNT ones", x.count(9), 1);
        dueRow(x, 0, 5);
        due("asked()", x.asked(), 5);
        due("the kept LAND", x.on(0), 1);
        due("LIGHT", x.count(1), 18);
    }

    // ---- 23 keep

    private static void promise23Bad() {
        NoonJars x = Check.land("y6s1v0000j20");
        badBeyond(x, "keep()", 0, 2, k -> x.keep(k));
    }

    private static void promise23StateWithoutJars() {
        NoonJars x = new NoonJars();
        refused(x, "keep(0) of a new object", STATE, () -> x.keep(0));
        NoonJars y = Check.land("y6s1v0000");
        refused(y, "keep(2) of a LAND without JARS", STATE, () -> y.keep(2));
        finds(y, "on(2)", NOTHING, () -> y.on(2));
    }

    private static void promise23TheDay() {
        NoonJars x = Check.land("y6s1v0000j20");
        due("keep(0)", x.keep(0), 0);
        x.night();
        due("keep(2)", x.keep(2), 1);
        x.night();
        due("keep(0) anew", x.keep(0), 2);
        due("on(2)", x.on(2), 1);
        due("on(0)", x.on(0), 2);
    }

    private static void promise23TheLastDay() {
        NoonJars x = onTheLastDay();
        due("keep(0)", x.keep(0), 999);
        x.undo();
        due("on(0)", x.on(0), 999);
        refused(x, "night()", FULL, () -> x.night());
    }

    private static void promise23DeedsGoOnBehindIt() {
        NoonJars x = Check.land("y6s1v0000j20");
        x.fill(0);
        x.keep(0);
        due("DEEDS", x.count(8), 1);
        due("undo()", x.undo(), 0);
    }

    // ---- 24 on

    private static void promise24Bad() {
        NoonJars x = Check.land("y6s1v0000j20");
        for (int k = 0; k < 3; k++) {
            x.keep(k);
        }
        badBeyond(x, "on()", 0, 2, k -> x.on(k));
    }

    private static void promise24Nothing() {
        NoonJars x = Check.land("y6s1v0000j20");
        x.keep(1);
        finds(x, "on(0)", NOTHING, () -> x.on(0));
        finds(x, "on(2)", NOTHING, () -> x.on(2));
        due("on(1)", x.on(1), 0);
    }

    /** But for the DEEDS, digest() tells all that was kept. */
    private static void promise24AllIsAsItWasKept() {
        NoonJars x = Check.land("y3s1v2222j20e20d20");
        x.fill(0);
        x.fill(1);
        x.spend(1, 1);
        x.night();
        x.carry(0, 1);
        x.spend(0, 1);
        x.keep(1);
        x.on(1);
        long digest = x.digest();
        x.carry(0, 1);
        x.fill(2);
        x.pour(2, 1);
        x.steal(0, 3);
        x.night();
        x.night();
        due("on(1)", x.on(1), 1);
        due("digest()", x.digest(), digest);
        due("MULES left", x.count(3), 2);
        due("HOURS", Check.ofPlace(x, 1, 1), 1);
        due("OPENED", Check.ofJar(x, 1, 4), 1);
        due("DAYS that it was DARK", Check.ofPlace(x, 4, 2), 1);
    }

    private static void promise24OfSixJarsAndAllPlaces() {
        NoonJars x = fullLand();
        NoonJars y = fullLand();
        for (int k = 0; k < 3; k++) {
            x.keep(k);
            y.keep(k);
        }
        y.on(1);
        long digest = y.digest();
        for (int k = 0; k < 3; k++) {
            x.night();
            x.fill(0);
            x.carry(1, 1);
            due("on(" + k + ")", x.on(k), 2);
            due("digest()", x.digest(), digest);
        }
        dueFullLand(x);
    }

    private static void dueFullLand(NoonJars x) {
        int[][] jars = {{14, 0, 1}, {14, 2, 1}, {9, 1, 1}, {10, 2, 1}, {8, 4, 1}, {5, 4, 1}};
        for (int k = 0; k < 6; k++) {
            due("LIGHT of " + k, Check.ofJar(x, k, 2), jars[k][0]);
            due("PLACE of " + k, Check.ofJar(x, k, 3), jars[k][1]);
            due("OPENED of " + k, Check.ofJar(x, k, 4), jars[k][2]);
        }
        int[] hours = {0, 5, 4, 0, 9};
        int[] dark = {0, 2, 2, 2, 1};
        for (int p = 0; p <= 4; p++) {
            due("HOURS of " + p, Check.ofPlace(x, p, 1), hours[p]);
            due("DARK DAYS of " + p, Check.ofPlace(x, p, 2), dark[p]);
        }
        due("MULES left", x.count(3), 5);
    }

    private static void promise24NoDeedsThen() {
        NoonJars x = Check.land("y6s1v0000j20");
        x.fill(0);
        x.keep(0);
        x.night();
        x.on(0);
        due("DEEDS", x.count(8), 0);
        refused(x, "undo()", STATE, () -> x.undo());
        x.night();
        due("undo() of a further one", x.undo(), 5);
        refused(x, "undo() of none", STATE, () -> x.undo());
    }

    private static void promise24BurntOnesStay() {
        NoonJars x = Check.land("y6s1v0000j20");
        x.burnt(1, 20);
        x.keep(0);
        x.burnt(1, 20);
        x.on(0);
        due("BURNT ones", x.count(9), 2);
    }

    private static void promise24MoreThanOnce() {
        NoonJars x = Check.land("y6s1v0000j20");
        x.fill(0);
        x.keep(0);
        for (int i = 0; i < 3; i++) {
            x.night();
            due("on(0)", x.on(0), 0);
            due("LIGHT", x.count(1), 20);
        }
    }
}
