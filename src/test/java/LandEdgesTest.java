/** Boundary cases of promises 10 to 15: LANDS by TEXTS and where their FAULTS are, JARS, PLACES, SUNS. */
public final class LandEdgesTest extends Edges {
    private static final String LETTERS = "jcedlu";

    public static void main(String[] args) throws IllegalAccessException {
        runAll(LandEdgesTest.class);
    }

    /** The FAULT of a TEXT; by one with a FAULT there is no LAND, by one without there is. */
    private static NoonJars dueFault(String text, int want) {
        NoonJars x = new NoonJars();
        Check.write(x, 0, text);
        long digest = x.digest();
        due("fault of '" + text + "'", x.fault(0), want);
        due("digest() behind fault()", x.digest(), digest);
        int jars = x.land(0);
        due("land by '" + text + "'", jars < 0 ? jars : 0, want == NONE ? 0 : STATE);
        return x;
    }

    private static int faultWith(String text, int place, int sign) {
        NoonJars x = new NoonJars();
        Check.write(x, 0, text);
        x.put(0, place, sign);
        return x.fault(0);
    }

    // ---- 10 fault: what goes on

    private static void promise10BlanksAreAsManyAsWanted() {
        dueFault("y1s1v1234j5c6", NONE);
        dueFault(" y1 s1 v1234 j5 c6 ", NONE);
        dueFault("      y1      s1      v1234      j5      c6                 ", NONE);
    }

    private static void promise10NoBlanksWithinItems() {
        dueFault("y 1s1v1234j12", 1);
        dueFault("y1s 1v1234j12", 3);
        dueFault("y1s1 1v1234j12", 5);
        dueFault("y1s1v 1234j12", 5);
        dueFault("y1s1v1 234j12", 6);
        dueFault("y1s1v12 34j12", 7);
        dueFault("y1s1v123 4j12", 8);
        dueFault("y1s1v1234j 12", 10);
        dueFault("y1s1v1234j1 2", 12);
    }

    private static void promise10MulesAreOneToSix() {
        for (int mules = 0; mules <= 9; mules++) {
            boolean good = mules >= 1 && mules <= 6;
            NoonJars x = dueFault("y" + mules + "s1v1234", good ? NONE : 1);
            due("MULES", x.count(3), good ? mules : 0);
        }
    }

    private static void promise10MulesAreOneFigure() {
        dueFault("y11s1v1234", 2);
        dueFault("y01s1v1234", 1);
        dueFault("y10s1v1234", 2);
    }

    private static void promise10SunsAreOneToEightFigures() {
        StringBuilder suns = new StringBuilder();
        dueFault("y1sv1234", 3);
        for (int n = 1; n <= 8; n++) {
            suns.append(n % 2);
            NoonJars x = dueFault("y1s" + suns + "v1234", NONE);
            due("sun(" + (n - 1) + ")", x.sun(n - 1), n % 2);
            due("sun(" + n + ") is the first again", x.sun(n), 1);
        }
        dueFault("y1s101010101v1234", 11);
        dueFault("y1s000000000v1234", 11);
    }

    private static void promise10SunsAreFiguresZeroAndOne() {
        for (int figure = 0; figure <= 9; figure++) {
            dueFault("y1s" + figure + "v1234", figure <= 1 ? NONE : 3);
            dueFault("y1s0" + figure + "v1234", figure <= 1 ? NONE : 4);
        }
    }

    private static void promise10NeedsAreFourFigures() {
        dueFault("y1s1v", 5);
        dueFault("y1s1v1", 6);
        dueFault("y1s1v12", 7);
        dueFault("y1s1v123", 8);
        NoonJars x = dueFault("y1s1v0909", NONE);
        for (int v = 1; v <= 4; v++) {
            due("NEED of " + v, Check.ofPlace(x, v, 0), v % 2 == 0 ? 9 : 0);
        }
        dueFault("y1s1v12345", 9);
    }

    private static void promise10JarsAreNoneOrSixAtMost() {
        StringBuilder jars = new StringBuilder();
        for (int n = 0; n <= 6; n++) {
            NoonJars x = dueFault("y1s1v1234" + jars, NONE);
            due("JARS", x.count(0), n);
            jars.append(LETTERS.charAt(n % 6)).append(n + 1);
        }
        dueFault("y1s1v1234" + jars, 21);
    }

    private static void promise10SizesOfOneFigure() {
        for (int size = 0; size <= 9; size++) {
            NoonJars x = dueFault("y1s1v1234j" + size, size == 0 ? 11 : NONE);
            due("SIZE", Check.ofJar(x, 0, 1), size == 0 ? LEAST : size);
        }
    }

    /** A first figure 0 is a figure, too: 01 is 1. */
    private static void promise10SizesOfTwoFigures() {
        for (int size = 0; size <= 99; size++) {
            boolean good = size >= 1 && size <= 20;
            NoonJars x = dueFault("y1s1v1234j" + size / 10 + size % 10, good ? NONE : 12);
            due("SIZE", Check.ofJar(x, 0, 1), good ? size : LEAST);
        }
    }

    private static void promise10EachLetterIsAKind() {
        for (int kind = 0; kind < 6; kind++) {
            NoonJars x = dueFault("y1s1v1234" + LETTERS.charAt(kind) + "5", NONE);
            due("KIND", Check.ofJar(x, 0, 0), kind);
        }
    }

    // ---- 10 fault: where it can't go on

    private static void promise10ASizeOutOfTheseIsThePlaceBehind() {
        dueFault("y1s1v1234j0", 11);
        dueFault("y1s1v1234j0   ", 11);
        dueFault("y1s1v1234j0j5", 11);
        dueFault("y1s1v1234j00", 12);
        dueFault("y1s1v1234j21", 12);
        dueFault("y1s1v1234j21   ", 12);
        dueFault("y1s1v1234j21j5", 12);
        dueFault("y1s1v1234j5 c99 e5", 15);
    }

    /** Every byte at every place of a TEXT: its place, where it is none such. */
    private static void promise10ALetterOrAFigureThatIsNoneSuchIsItsPlace() {
        String text = "y3s1v1234j5";
        for (int sign = -128; sign <= 127; sign++) {
            boolean figure = sign >= '0' && sign <= '9';
            boolean bit = sign == '0' || sign == '1';
            boolean blank = sign == ' ';
            due(sign + " for y", faultWith(text, 0, sign), sign == 'y' ? NONE : blank ? 1 : 0);
            due(sign + " for MULES", faultWith(text, 1, sign), sign >= '1' && sign <= '6' ? NONE : 1);
            due(sign + " for s", faultWith(text, 2, sign), sign == 's' ? NONE : blank ? 3 : 2);
            due(sign + " for a SUN", faultWith(text, 3, sign), bit ? NONE : 3);
            due(sign + " for v", faultWith(text, 4, sign), sign == 'v' ? NONE : bit ? 6 : blank ? 5 : 4);
            for (int place = 5; place <= 8; place++) {
                due(sign + " for a NEED", faultWith(text, place, sign), figure ? NONE : place);
            }
            boolean letter = sign > 0 && LETTERS.indexOf(sign) >= 0;
            due(sign + " for a letter", faultWith(text, 9, sign), letter ? NONE : blank ? 10 : 9);
            due(sign + " for a SIZE", faultWith(text, 10, sign), sign == '0' ? 11 : figure ? NONE : 10);
        }
    }

    /** Every byte behind a SIZE of two figures, and as its second figure. */
    private static void promise10ASignBehindASizeIsItsPlace() {
        for (int sign = -128; sign <= 127; sign++) {
            boolean figure = sign >= '0' && sign <= '9';
            boolean letter = sign > 0 && LETTERS.indexOf(sign) >= 0;
            int behind = letter ? 13 : sign == ' ' ? NONE : 12;
            due(sign + " behind j12", faultWith("y1s1v1234j12 ", 12, sign), behind);
            int second = figure || sign == ' ' ? NONE : letter ? 12 : 11;
            due(sign + " behind j1", faultWith("y1s1v1234j1 ", 11, sign), second);
        }
    }

    private static void promise10ASeventhJarIsItsPlace() {
        dueFault("y1s1v1234j1j1j1j1j1j1j1", 21);
        dueFault("y1s1v1234j1j1j1j1j1j1   j1", 24);
        dueFault("y1s1v1234j20j20j20j20j20j20j20", 27);
        dueFault("y1s1v1234j1j1j1j1j1j1j", 21);
        dueFault("y1s1v1234j1j1j1j1j1j1   ", NONE);
    }

    private static void promise10AnItemThatIsNotDueIsItsPlace() {
        dueFault("s1y1v1234", 0);
        dueFault("v1234", 0);
        dueFault("j5", 0);
        dueFault("  s1", 2);
        dueFault("y1y1s1v1234", 2);
        dueFault("y1 v1234", 3);
        dueFault("y1 j5", 3);
        dueFault("y1s1s1v1234", 4);
        dueFault("y1s1 y1", 5);
        dueFault("y1s1 j5", 5);
        dueFault("y1s1v1234v1234", 9);
        dueFault("y1s1v1234 y1", 10);
        dueFault("y1s1v1234 s1", 10);
        dueFault("y1s1v1234j5 v1234", 12);
        dueFault("y1s1v1234j5 y1", 12);
    }

    private static void promise10AFigureThatIsDueAsAnItemEndsIsThePlaceBehind() {
        dueFault("y s1v1234", 1);
        dueFault("ys1v1234", 1);
        dueFault("y1s v1234", 3);
        dueFault("y1sv1234", 3);
        dueFault("y1s1v j5", 5);
        dueFault("y1s1v1 j5", 6);
        dueFault("y1s1v12 j5", 7);
        dueFault("y1s1v123 j5", 8);
        dueFault("y1s1v123j5", 8);
        dueFault("y1s1v1234j c5", 10);
        dueFault("y1s1v1234jc5", 10);
        dueFault("y1s1v1234j   ", 10);
    }

    private static void promise10TheTextsSizeIfItsEndComesTooEarly() {
        String text = "y1s1v1234j5";
        for (int size = 0; size <= text.length(); size++) {
            boolean whole = size == 9 || size == 11;
            dueFault(text.substring(0, size), whole ? NONE : size);
        }
        dueFault("  ", 2);
        dueFault("y1   ", 5);
        dueFault("y1s1   ", 7);
        dueFault("y1s1v1234   ", NONE);
    }

    private static void promise10TheLongestTexts() {
        dueFault(" ".repeat(60), 60);
        dueFault("y1" + " ".repeat(58), 60);
        dueFault(" ".repeat(51) + "y1s1v1234", NONE);
        dueFault(" ".repeat(52) + "y1s1v123", 60);
        dueFault(" ".repeat(58) + "y1", 60);
        dueFault(" ".repeat(59) + "y", 60);
        dueFault(" ".repeat(59) + "s", 59);
        dueFault("y1s1v1234" + " ".repeat(49) + "j0", 60);
        dueFault("y1s1v1234" + " ".repeat(48) + "j21", 60);
        dueFault("y1s1v1234" + " ".repeat(48) + "j20", NONE);
        dueFault("y1s1v1234" + " ".repeat(50) + "j", 60);
        dueFault("y1s1v1234" + " ".repeat(50) + "x", 59);
    }

    /** What lies behind the end of a TEXT that was longer is none of it. */
    private static void promise10WhatWasBehindTheEndIsGone() {
        NoonJars x = new NoonJars();
        Check.write(x, 0, "y1s1v1234j5j5j5");
        Check.write(x, 0, "y1s1v123");
        due("fault(0)", x.fault(0), 8);
        Check.write(x, 0, "y1s1v1234");
        due("land(0)", x.land(0), 0);
    }

    private static void promise10Bad() {
        NoonJars x = new NoonJars();
        badBeyond(x, "fault()", 0, 3, t -> x.fault(t));
    }

    private static void promise10Nothing() {
        NoonJars x = new NoonJars();
        finds(x, "fault(3)", NOTHING, () -> x.fault(3));
    }

    /** Of a LAND that is there nothing changes by another TEXT's FAULT, or if it has none. */
    private static void promise10AFaultChangesNoLand() {
        NoonJars x = Check.land("y3s01v1234j5c9");
        Check.write(x, 1, "y6s1v9999e20e20e20");
        long digest = x.digest();
        due("fault(1)", x.fault(1), NONE);
        due("digest()", x.digest(), digest);
        due("sun(0)", x.sun(0), 0);
        due("brings(1, 1)", x.brings(1, 1), 7);
    }

    // ---- 11 land

    private static void promise11AnewAllIsAsAtFirst() {
        NoonJars x = Check.land("y2s1v1111j9c9");
        x.fill(0);
        x.fill(1);
        x.carry(0, 1);
        x.spend(0, 2);
        x.night();
        x.spend(1, 1);
        x.carry(1, 1);
        x.keep(0);
        x.keep(1);
        x.keep(2);
        x.burnt(3, 9);
        due("land(0) again", x.land(0), 2);
        due("digest() is that of a new object's LAND", x.digest(), Check.land("y2s1v1111j9c9").digest());
    }

    private static void promise11AnewNoDeeds() {
        NoonJars x = Check.land("y2s1v1111j9c9");
        x.fill(0);
        x.night();
        x.land(0);
        due("DEEDS", x.count(8), 0);
        refused(x, "undo()", STATE, () -> x.undo());
    }

    private static void promise11AnewNoBurntOnes() {
        NoonJars x = Check.land("y2s1v1111j9c9");
        for (int i = 0; i < 8; i++) {
            x.burnt(1, 3);
        }
        x.land(0);
        due("BURNT ones", x.count(9), 0);
        tells(x, "mixed()", x.mixed(), 4, 0);
        due("burnt(1, 9)", x.burnt(1, 9), 0);
    }

    private static void promise11AnewNoKeptLands() {
        NoonJars x = Check.land("y2s1v1111j9c9");
        for (int k = 0; k < 3; k++) {
            x.keep(k);
        }
        x.land(0);
        for (int k = 0; k < 3; k++) {
            int one = k;
            finds(x, "on(" + k + ")", NOTHING, () -> x.on(one));
        }
    }

    private static void promise11AnewFewerJarsAreLeft() {
        NoonJars x = Check.land("y6s1v1111j9c9e9d9l9u9");
        for (int k = 0; k < 6; k++) {
            x.fill(k);
        }
        Check.write(x, 1, "y1s0v0000j4");
        due("land(1)", x.land(1), 1);
        due("LIGHT", x.count(1), 0);
        due("LIGHT on the MOUNTAIN", Check.ofPlace(x, 0, 3), 0);
        due("MULES", x.count(3), 1);
        due("SEALED ones", x.count(4), 0);
        due("DAWN ones", x.count(5), 0);
        due("NEED", Check.ofPlace(x, 4, 0), 0);
        refused(x, "jar(1, 0)", BAD, () -> x.jar(1, 0));
    }

    /** Whatever was asked of greater LANDS, all answers are those of a new object's LAND. */
    private static void promise11AnewNothingIsLeftOfLandsBefore() {
        NoonJars x = Check.land("y6s1v9999l20l20l20l20l20l20");
        askAll(x);
        Check.write(x, 1, "y5s1v9911l20l20l20");
        x.land(1);
        x.fill(2);
        askAll(x);
        Check.write(x, 1, "y1s01v0108j5c9");
        x.land(1);
        NoonJars y = Check.land("y1s01v0108j5c9");
        due("answers", askAll(x), askAll(y));
        x.night();
        y.night();
        x.fill(1);
        y.fill(1);
        due("answers behind fill()", askAll(x), askAll(y));
    }

    private static long askAll(NoonJars x) {
        long h = 31 * x.loads() + x.asked();
        for (int p = 0; p <= 4; p++) {
            h = 31 * (31 * h + x.best(p)) + x.asked();
            h = 31 * (31 * h + x.needs(p)) + x.asked();
            h = 31 * (31 * h + x.mirror(p, 9)) + x.asked();
        }
        for (int n = 0; n <= 20; n++) {
            h = 31 * (31 * (31 * h + x.pours(0, n)) + x.asked()) + x.loss(0, n);
        }
        h = 31 * (31 * h + x.most(0)) + x.asked();
        h = 31 * (31 * h + x.mixed()) + x.asked();
        h = 31 * (31 * h + x.sure()) + x.asked();
        h = 31 * (31 * h + x.test()) + x.asked();
        return 31 * (31 * h + x.upper()) + x.lower();
    }

    private static void promise11RowsTextsAndFindingsStay() {
        NoonJars x = Check.land("y2s1v1111j9c9");
        Check.fillRow(x, 2, 5, 6);
        Check.write(x, 3, "ab");
        x.tear(0);
        x.at(2, 1);
        due("land(0)", x.land(0), 2);
        due("asked()", x.asked(), 6);
        due("finding()", x.finding(), NOTHING);
        due("findings(1)", x.findings(1), 1);
        dueRow(x, 2, 5, 6);
        due("TEXTS", x.count(7), 2);
        due("put(3, 1, 0)", x.put(3, 1, 0), 1000 + 'b');
    }

    private static void promise11ALandWithoutJars() {
        NoonJars x = Check.land("y6s1v1111j9");
        Check.write(x, 1, "y2s1v1234");
        due("land(1)", x.land(1), 0);
        due("MULES", x.count(3), 2);
        due("SUN", x.sun(0), 1);
        tells(x, "night()", x.night(), 0, 4);
    }

    private static void promise11NothingIsAheadOfState() {
        NoonJars x = new NoonJars();
        finds(x, "land(0), missing", NOTHING, () -> x.land(0));
        x.text(0, 0);
        refused(x, "land(0) of none", STATE, () -> x.land(0));
    }

    private static void promise11Bad() {
        NoonJars x = new NoonJars();
        badBeyond(x, "land()", 0, 3, t -> x.land(t));
    }

    // ---- 12 jar

    private static void promise12BadJars() {
        NoonJars x = Check.land("y6s1v0000j1j1");
        badBeyond(x, "jar()", 0, 1, k -> x.jar(k, 0));
    }

    private static void promise12BadQuestions() {
        NoonJars x = Check.land("y6s1v0000j1j1");
        badBeyond(x, "jar(0, )", 0, 4, what -> x.jar(0, what));
    }

    private static void promise12OpenedSinceItWasFilledLast() {
        NoonJars x = Check.land("y6s1v0000j20");
        x.fill(0);
        x.spend(0, 1);
        tells(x, "jar(0, 4), spent from", x.jar(0, 4), 1, 1);
        x.fill(0);
        tells(x, "jar(0, 4), filled", x.jar(0, 4), 1, 0);
        x.spend(0, 20);
        x.night();
        tells(x, "jar(0, 4), behind a NIGHT", x.jar(0, 4), 1, 1);
    }

    private static void promise12OpenedSinceTheBeginningIfNeverFilled() {
        NoonJars x = Check.land("y6s1v0000j20j20j20");
        tells(x, "jar(1, 4) at first", x.jar(1, 4), 1, 0);
        x.fill(0);
        x.pour(0, 1);
        tells(x, "jar(1, 4), poured into", x.jar(1, 4), 1, 1);
        tells(x, "jar(0, 4), poured from", x.jar(0, 4), 1, 1);
        tells(x, "jar(2, 4), neither", x.jar(2, 4), 1, 0);
    }

    private static void promise12NotOpenedByATheftACarryANight() {
        NoonJars x = holding('j', 20, 20);
        x.steal(0, 19);
        x.carry(0, 1);
        x.night();
        tells(x, "jar(0, 4)", x.jar(0, 4), 1, 0);
    }

    private static void promise12FilledThoughFullItIsNotOpened() {
        NoonJars x = Check.land("y6s1v0000j9j20");
        x.fill(0);
        x.fill(1);
        x.spend(0, 5);
        x.pour(1, 0);
        due("LIGHT", Check.ofJar(x, 0, 2), 9);
        due("fill(0) of a full one", x.fill(0), 0);
        tells(x, "jar(0, 4)", x.jar(0, 4), 1, 0);
    }

    // ---- 13 mark

    private static void promise13KindZeroIsBad() {
        NoonJars x = Check.land("y6s1v0000j1c1");
        refused(x, "mark(0, 0)", BAD, () -> x.mark(0, 0));
        badBeyond(x, "mark(1, )", 1, 5, kind -> x.mark(1, kind));
    }

    private static void promise13BadJars() {
        NoonJars x = Check.land("y6s1v0000c1c1");
        badBeyond(x, "mark()", 0, 1, k -> x.mark(k, 1));
    }

    private static void promise13UnlikeOfAnotherKind() {
        NoonJars x = Check.land("y6s1v0000j20c20e20d20");
        finds(x, "mark(0, 1) of a JAR", UNLIKE, () -> x.mark(0, 1));
        finds(x, "mark(0, 2) of a JAR", UNLIKE, () -> x.mark(0, 2));
        finds(x, "mark(1, 2) of CLAY", UNLIKE, () -> x.mark(1, 2));
        finds(x, "mark(2, 1) of SEALED", UNLIKE, () -> x.mark(2, 1));
        finds(x, "mark(2, 4): SEALED is not LIDDED", UNLIKE, () -> x.mark(2, 4));
        finds(x, "mark(3, 5): DAWN is not DUSK", UNLIKE, () -> x.mark(3, 5));
    }

    private static void promise13UnlikeOfAnotherKindOfTheSpecialOnes() {
        NoonJars x = Check.land("y6s1v0000l20u20");
        finds(x, "mark(0, 1) of LIDDED", UNLIKE, () -> x.mark(0, 1));
        finds(x, "mark(0, 3) of LIDDED", UNLIKE, () -> x.mark(0, 3));
        finds(x, "mark(0, 5) of LIDDED", UNLIKE, () -> x.mark(0, 5));
        finds(x, "mark(1, 1) of DUSK", UNLIKE, () -> x.mark(1, 1));
        finds(x, "mark(1, 2) of DUSK", UNLIKE, () -> x.mark(1, 2));
        finds(x, "mark(1, 4) of DUSK", UNLIKE, () -> x.mark(1, 4));
    }

    private static void promise13ClayOfEachLight() {
        for (int light = 0; light <= 20; light++) {
            int want = (2 * light + 9) / 10 - (light + 9) / 10;
            due("mark(0, 1) of " + light, holding('c', 20, light).mark(0, 1), want);
        }
        due("mark(0, 1) of 5: 1 for 1", holding('c', 20, 5).mark(0, 1), 0);
        due("mark(0, 1) of 6: 2 for 1", holding('c', 20, 6).mark(0, 1), 1);
        due("mark(0, 1) of 11: 3 for 2", holding('c', 20, 11).mark(0, 1), 1);
        due("mark(0, 1) of 16: 4 for 2", holding('c', 20, 16).mark(0, 1), 2);
    }

    private static void promise13SealedNeverLeaksUnopened() {
        due("mark(0, 2) of 20", holding('e', 20, 20).mark(0, 2), NONE);
        due("mark(0, 2) of 1, stolen from", holding('e', 20, 1).mark(0, 2), NONE);
    }

    private static void promise13SealedLeaksInTheNightToComeOnceOpened() {
        NoonJars x = holding('e', 20, 20);
        x.spend(0, 19);
        due("mark(0, 2) of 1", x.mark(0, 2), 0);
        due("night()", x.night(), 1);
        due("mark(0, 2) of 0", x.mark(0, 2), NONE);
    }

    private static void promise13SealedAndEmptyIsNone() {
        due("mark(0, 2), never filled", holding('e', 20, 0).mark(0, 2), NONE);
        NoonJars x = holding('e', 20, 20);
        x.spend(0, 20);
        refused(x, "mark(0, 2), OPENED and empty", NONE, () -> x.mark(0, 2));
    }

    private static void promise13LiddedNeverLeaks() {
        NoonJars x = holding('l', 20, 20);
        due("mark(0, 2)", x.mark(0, 2), NONE);
        x.spend(0, 1);
        due("mark(0, 2), OPENED", x.mark(0, 2), NONE);
        x.spend(0, 19);
        due("mark(0, 2), empty", x.mark(0, 2), NONE);
    }

    private static void promise13DawnAndDuskOfEachLight() {
        for (int light = 0; light <= 20; light++) {
            due("mark(0, 3) of DAWN " + light, holding('d', 20, light).mark(0, 3), light - light / 2);
            due("mark(0, 3) of DUSK " + light, holding('u', 20, light).mark(0, 3), light - light / 3);
        }
    }

    private static void promise13LiddedGivesItsLight() {
        for (int size : new int[] {1, 9, 20}) {
            NoonJars x = holding('l', size, size);
            due("mark(0, 4) of " + size, x.mark(0, 4), size);
            x.spend(0, size);
            due("mark(0, 4), empty", x.mark(0, 4), 0);
        }
    }

    private static void promise13WhatIsLeftOfDusk() {
        for (int light = 0; light <= 20; light++) {
            NoonJars x = holding('u', 20, light);
            due("mark(0, 5) of " + light, x.mark(0, 5), light % 3);
            if (light >= 3) {
                due("spend() of all", x.spend(0, light / 3), light % 3);
            }
        }
    }

    // ---- 14 place

    private static void promise14BadPlaces() {
        NoonJars x = Check.land("y6s1v1234j1");
        badBeyond(x, "place()", 0, 4, p -> x.place(p, 0));
    }

    private static void promise14BadQuestions() {
        NoonJars x = Check.land("y6s1v1234j1");
        badBeyond(x, "place(1, )", 0, 3, what -> x.place(1, what));
    }

    private static void promise14TheMountainsNeedIsNought() {
        NoonJars x = Check.land("y6s1v9876j1");
        for (int p = 0; p <= 4; p++) {
            tells(x, "place(" + p + ", 0)", x.place(p, 0), 1, p == 0 ? 0 : 10 - p);
        }
    }

    private static void promise14HoursAreOfThisDayAndPlace() {
        NoonJars x = Check.land("y6s1v9999d20j20");
        x.fill(0);
        x.fill(1);
        x.spend(0, 2);
        x.carry(0, 1);
        x.spend(0, 3);
        x.carry(1, 1);
        x.spend(1, 4);
        tells(x, "place(0, 1)", x.place(0, 1), 1, 2);
        tells(x, "place(1, 1)", x.place(1, 1), 1, 7);
        x.night();
        tells(x, "place(0, 1) behind a NIGHT", x.place(0, 1), 1, 0);
        tells(x, "place(1, 1) behind a NIGHT", x.place(1, 1), 1, 0);
    }

    private static void promise14TheMountainIsNeverDark() {
        NoonJars x = Check.land("y6s1v9999j1");
        nights(x, 2);
        for (int p = 0; p <= 4; p++) {
            tells(x, "place(" + p + ", 2)", x.place(p, 2), 1, p == 0 ? 0 : 2);
        }
    }

    private static void promise14LightOfAllJarsThere() {
        NoonJars x = Check.land("y6s1v0000j20j20j20j20j20j20");
        tells(x, "place(0, 3), empty", x.place(0, 3), 1, 0);
        for (int k = 0; k < 6; k++) {
            x.fill(k);
        }
        tells(x, "place(0, 3), all full", x.place(0, 3), 1, 120);
        for (int i = 0; i < 4; i++) {
            x.carry(5, 1);
        }
        tells(x, "place(0, 3)", x.place(0, 3), 1, 100);
        tells(x, "place(3, 3)", x.place(3, 3), 1, 0);
        tells(x, "place(4, 3)", x.place(4, 3), 1, 20);
    }

    // ---- 15 sun

    private static void promise15DaysAreZeroTo999() {
        NoonJars x = Check.land("y6s1v0000");
        due("sun(0)", x.sun(0), 1);
        due("sun(999)", x.sun(999), 1);
        badBeyond(x, "sun()", 0, 999, day -> x.sun(day));
    }

    private static void promise15WhetherItIsTodayOrNot() {
        NoonJars x = Check.land("y6s10v0000");
        x.night();
        due("sun(0)", x.sun(0), 1);
        due("sun(1)", x.sun(1), 0);
        due("sun(998)", x.sun(998), 1);
        due("sun(999)", x.sun(999), 0);
    }
}
