/** Promises 34 to 38: which JARS have dawn in them, what to burn next. */
public final class BadLightTest {
    private static final Check CHECK = new Check("BadLightTest");

    public static void main(String[] args) {
        burntOnes();
        forgets();
        mixedOnes();
        sureOnes();
        tests();
        withoutJars();
        CHECK.end();
    }

    private static void burntOnes() {
        NoonJars x = Check.land("y1s0v0000j9u6");
        CHECK.due(34, "burnt(3, 120)", x.burnt(3, 120), 0);
        CHECK.refused(34, x, "burnt(0, 1)", NoonJars.BAD, () -> x.burnt(0, 1));
        CHECK.refused(34, x, "burnt(4, 1)", NoonJars.BAD, () -> x.burnt(4, 1));
        CHECK.refused(34, x, "burnt(5, 1)", NoonJars.BAD, () -> x.burnt(5, 1));
        CHECK.refused(34, x, "burnt(-1, 1)", NoonJars.BAD, () -> x.burnt(-1, 1));
        CHECK.refused(34, x, "burnt(1, -1)", NoonJars.BAD, () -> x.burnt(1, -1));
        CHECK.refused(34, x, "burnt(1, 121)", NoonJars.BAD, () -> x.burnt(1, 121));
        for (int i = 1; i < 8; i++) {
            CHECK.due(34, "burnt(1, 0)", x.burnt(1, 0), i);
        }
        CHECK.due(34, "count(9)", x.count(9), 8);
        CHECK.refused(34, x, "burnt(1, 0) of a ninth", NoonJars.FULL, () -> x.burnt(1, 0));
        CHECK.refused(34, x, "burnt(0, 0) of a ninth", NoonJars.BAD, () -> x.burnt(0, 0));
        CHECK.due(34, "the JARS stay", x.count(1) + x.count(8), 0);
    }

    private static void forgets() {
        NoonJars x = Check.land("y1s0v0000j9u6");
        x.burnt(1, 4);
        x.burnt(2, 6);
        x.burnt(3, 1);
        CHECK.refused(35, x, "forget(4)", NoonJars.BAD, () -> x.forget(4));
        CHECK.refused(35, x, "forget(-1)", NoonJars.BAD, () -> x.forget(-1));
        CHECK.due(35, "forget(3)", x.forget(3), 0);
        CHECK.due(35, "mixed()", x.mixed(), NoonJars.NONE);
        CHECK.due(35, "forget(2)", x.forget(2), 1);
        CHECK.tells(35, x, "mixed()", x.mixed(), 1, 1);
        CHECK.due(35, "burnt(3, 10)", x.burnt(3, 10), 2);
        CHECK.due(35, "forget(0)", x.forget(0), 3);
        CHECK.due(35, "count(9)", x.count(9), 0);
        CHECK.due(35, "forget(0) of none", x.forget(0), 0);
        CHECK.due(35, "its number is 0 again", x.burnt(1, 9), 0);
    }

    private static void mixedOnes() {
        NoonJars x = Check.land("y1s0v0000j9u6j7");
        CHECK.tells(36, x, "mixed() of all", x.mixed(), 8, 0);
        x.burnt(7, 22);
        CHECK.tells(36, x, "mixed(): none has", x.mixed(), 1, 0);
        x.forget(0);
        x.burnt(7, 10);
        CHECK.tells(36, x, "mixed(): all have (4, 3, 3)", x.mixed(), 1, 7);
        x.forget(0);
        x.burnt(7, 18);
        CHECK.tells(36, x, "mixed(): JAR 2 alone", x.mixed(), 1, 4);
        x.burnt(1, 4);
        CHECK.refused(36, x, "mixed(): none", NoonJars.NONE, () -> x.mixed());
        // The halves of 2 and 3 are one each, 1 with dawn gives nothing.
        NoonJars y = Check.land("y1s0v0000j2j3j1");
        y.burnt(4, 0);
        CHECK.tells(36, y, "mixed(): JAR 2 surely", y.mixed(), 4, 4);
        y.burnt(3, 4);
        CHECK.tells(36, y, "mixed(): 1 and 3", y.mixed(), 1, 5);
    }

    private static void sureOnes() {
        NoonJars x = Check.land("y1s0v0000j8j8j6");
        CHECK.tells(37, x, "sure() of nothing", x.sure(), 0, 0);
        x.burnt(3, 12);
        CHECK.tells(37, x, "sure(): one of two", x.sure(), 0, 0);
        x.burnt(4, 3);
        CHECK.tells(37, x, "sure(): JAR 2", x.sure(), 4, 0);
        x.burnt(1, 8);
        CHECK.tells(37, x, "sure(): all", x.sure(), 6, 1);
        x.burnt(1, 4);
        CHECK.finds(37, x, "sure(): no set", 4, () -> x.sure());
    }

    private static void tests() {
        NoonJars x = Check.land("y1s0v0000j8j8j6");
        // Together 22, 18, 18, 14, 19, 15, 15, 11: two at most are left; two of the JARS leave two as well.
        CHECK.tells(38, x, "test()", x.test(), 5, 2);
        x.burnt(4, 6);
        CHECK.tells(38, x, "test() of four sets", x.test(), 1, 2);
        x.burnt(3, 12);
        CHECK.tells(38, x, "test() of two sets", x.test(), 1, 1);
        x.burnt(1, 4);
        CHECK.tells(38, x, "test() of one set", x.test(), 1, 1);
        x.burnt(1, 8);
        CHECK.finds(38, x, "test() of no set", 4, () -> x.test());
        NoonJars y = Check.land("y1s0v0000j5j9j20");
        CHECK.tells(38, y, "test(): all three tell all", y.test(), 7, 1);
        y.burnt(1, 5);
        CHECK.tells(38, y, "test(): JARS 1 and 2", y.test(), 6, 1);
        // Six alike: of five of them 10 sets have two with dawn, with the sixth 20; all six leave 20 as well.
        NoonJars z = Check.land("y1s0v0000j20j20j20j20j20j20");
        CHECK.tells(38, z, "test() of six alike", z.test(), 31, 20);
        z.burnt(63, 120);
        CHECK.tells(36, z, "mixed(): none of six", z.mixed(), 1, 0);
    }

    private static void withoutJars() {
        NoonJars x = Check.land("y1s0v0000");
        CHECK.refused(34, x, "burnt(1, 0)", NoonJars.BAD, () -> x.burnt(1, 0));
        CHECK.refused(36, x, "mixed()", NoonJars.STATE, () -> x.mixed());
        CHECK.refused(37, x, "sure()", NoonJars.STATE, () -> x.sure());
        CHECK.refused(38, x, "test()", NoonJars.STATE, () -> x.test());
    }
}
