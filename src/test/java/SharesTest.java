/** Promises 39 to 42: thefts on the way, shares by seats, mirrors, DAYS by lots. */
public final class SharesTest {
    private static final Check CHECK = new Check("SharesTest");

    public static void main(String[] args) {
        thefts();
        theftRefusals();
        seats();
        seatRefusals();
        mirrors();
        lots();
        lotRefusals();
        CHECK.end();
    }

    private static void thefts() {
        NoonJars x = new NoonJars();
        Check.fillRow(x, 0, 20, 18, 16, 14, 12, 10, 9, 8, 0);
        CHECK.tells(39, x, "theft(0, 0)", x.theft(0, 0), 8, 7);
        CHECK.tells(39, x, "theft(0, 3)", x.theft(0, 3), 8, 7);
        CHECK.tells(39, x, "theft(0, 5)", x.theft(0, 5), 8, 7);
        CHECK.tells(39, x, "theft(0, 1)", x.theft(0, 1), 8, 6);
        CHECK.tells(39, x, "theft(0, 2)", x.theft(0, 2), 1, 2);
        CHECK.tells(39, x, "theft(0, 4)", x.theft(0, 4), 1, 2);
        Check.fillRow(x, 1, 5, 20, 20);
        CHECK.refused(39, x, "theft(1, 4): more is none", NoonJars.NONE, () -> x.theft(1, 4));
        CHECK.refused(39, x, "theft(1, 0)", NoonJars.NONE, () -> x.theft(1, 0));
        Check.fillRow(x, 2, 1, 0);
        CHECK.refused(39, x, "theft(2, 0): all leaked", NoonJars.NONE, () -> x.theft(2, 0));
        CHECK.tells(39, x, "theft(2, 2)", x.theft(2, 2), 1, 1);
        Check.fillRow(x, 2, 0, 0);
        CHECK.refused(39, x, "theft(2, 2): nothing", NoonJars.NONE, () -> x.theft(2, 2));
        x.row(3, 60);
        CHECK.refused(39, x, "theft(3, 2): sixty posts", NoonJars.NONE, () -> x.theft(3, 2));
        x.lay(3, 58, 20);
        CHECK.tells(39, x, "theft(3, 2) at the last post", x.theft(3, 2), 59, 20);
    }

    private static void theftRefusals() {
        NoonJars x = new NoonJars();
        CHECK.finds(39, x, "theft missing", 1, () -> x.theft(0, 0));
        Check.fillRow(x, 0, 99);
        CHECK.finds(39, x, "theft of one post", 5, () -> x.theft(0, 0));
        x.row(1, 0);
        CHECK.finds(39, x, "theft of no post", 5, () -> x.theft(1, 0));
        Check.fillRow(x, 2, 20, 1, 21);
        CHECK.finds(39, x, "theft with 21", 3, () -> x.theft(2, 0));
        Check.fillRow(x, 2, 20, 1, -1);
        CHECK.finds(39, x, "theft with -1", 3, () -> x.theft(2, 0));
        CHECK.refused(39, x, "theft(6, 0)", NoonJars.BAD, () -> x.theft(6, 0));
        CHECK.refused(39, x, "theft(-1, 0)", NoonJars.BAD, () -> x.theft(-1, 0));
        CHECK.refused(39, x, "theft(5, 6)", NoonJars.BAD, () -> x.theft(5, 6));
        CHECK.refused(39, x, "theft(5, -1)", NoonJars.BAD, () -> x.theft(5, -1));
    }

    private static void dueShares(int n, int[] seats, int... want) {
        NoonJars x = new NoonJars();
        Check.fillRow(x, 0, seats);
        int greatest = 0;
        for (int part : want) {
            greatest = Math.max(greatest, part);
        }
        int asked = x.asked();
        CHECK.due(40, "seats(" + n + ")", x.seats(n, 0, 3), greatest);
        CHECK.due(40, "asked() stays", x.asked(), asked);
        for (int i = 0; i < want.length; i++) {
            CHECK.due(40, "share " + i, Check.placeOf(x, 3, i), want[i]);
        }
        CHECK.due(40, "no further share", x.at(3, want.length), NoonJars.FINDING);
        CHECK.due(40, "the seats stay", Check.placeOf(x, 0, 0), seats[0]);
    }

    private static void seats() {
        dueShares(0, new int[] {3, 2}, 0, 0);
        dueShares(1, new int[] {2, 3}, 0, 1);
        dueShares(1, new int[] {3, 3}, 1, 0);
        dueShares(8, new int[] {53, 24, 23}, 4, 2, 2);
        // The second part: 5 by 2 is less than 3 by 1, though both would be cut.
        dueShares(2, new int[] {5, 3}, 1, 1);
        dueShares(3, new int[] {5, 2, 2}, 2, 1, 0);
        dueShares(99, new int[] {0, 7, 0}, 0, 99, 0);
        dueShares(99, new int[] {99}, 99);
        dueShares(6, new int[] {1, 1, 1, 1, 1, 1}, 1, 1, 1, 1, 1, 1);
        NoonJars x = new NoonJars();
        Check.fillRow(x, 1, 53, 24, 23);
        CHECK.due(40, "seats(8, 1, 1) to itself", x.seats(8, 1, 1), 4);
        CHECK.due(40, "share 1", Check.placeOf(x, 1, 1), 2);
        Check.fillRow(x, 2, 9, 9, 9, 9, 9, 9, 9, 9);
        CHECK.due(40, "seats(8, 1, 2) anew", x.seats(8, 1, 2), 4);
        CHECK.due(40, "size of it", x.at(2, 3), NoonJars.FINDING);
    }

    private static void seatRefusals() {
        NoonJars x = new NoonJars();
        CHECK.finds(40, x, "seats missing", 1, () -> x.seats(1, 0, 1));
        x.row(0, 0);
        CHECK.finds(40, x, "seats of none", 5, () -> x.seats(1, 0, 1));
        Check.fillRow(x, 0, 1, 1, 1, 1, 1, 1, 100);
        CHECK.finds(40, x, "seats of seven", 5, () -> x.seats(1, 0, 1));
        Check.fillRow(x, 0, 0, 100);
        CHECK.finds(40, x, "seats 100", 3, () -> x.seats(1, 0, 1));
        Check.fillRow(x, 0, -1, 1);
        CHECK.finds(40, x, "seats -1", 3, () -> x.seats(1, 0, 1));
        Check.fillRow(x, 0, 0, 0);
        CHECK.finds(40, x, "no seats", 4, () -> x.seats(0, 0, 1));
        Check.fillRow(x, 0, 1, 0);
        CHECK.refused(40, x, "seats(100, 0, 1)", NoonJars.BAD, () -> x.seats(100, 0, 1));
        CHECK.refused(40, x, "seats(-1, 0, 1)", NoonJars.BAD, () -> x.seats(-1, 0, 1));
        CHECK.refused(40, x, "seats(1, 6, 1)", NoonJars.BAD, () -> x.seats(1, 6, 1));
        CHECK.refused(40, x, "seats(1, -1, 1)", NoonJars.BAD, () -> x.seats(1, -1, 1));
        CHECK.refused(40, x, "seats(1, 0, 6)", NoonJars.BAD, () -> x.seats(1, 0, 6));
        CHECK.refused(40, x, "seats(1, 0, -1)", NoonJars.BAD, () -> x.seats(1, 0, -1));
    }

    private static void mirrors() {
        NoonJars x = Check.land("y1s011v4109");
        CHECK.tells(41, x, "mirror(1, 1)", x.mirror(1, 1), 2, 1);
        CHECK.tells(41, x, "mirror(1, 4)", x.mirror(1, 4), 2, 1);
        CHECK.tells(41, x, "mirror(1, 5)", x.mirror(1, 5), 3, 2);
        CHECK.tells(41, x, "mirror(1, 9)", x.mirror(1, 9), 5, 3);
        CHECK.tells(41, x, "mirror(2, 999)", x.mirror(2, 999), 1499, 999);
        CHECK.tells(41, x, "mirror(4, 999)", x.mirror(4, 999), 167, 111);
        CHECK.refused(41, x, "mirror(3, 1): no NEED", NoonJars.NONE, () -> x.mirror(3, 1));
        CHECK.refused(41, x, "mirror(0, 1)", NoonJars.BAD, () -> x.mirror(0, 1));
        CHECK.refused(41, x, "mirror(5, 1)", NoonJars.BAD, () -> x.mirror(5, 1));
        CHECK.refused(41, x, "mirror(1, 0)", NoonJars.BAD, () -> x.mirror(1, 0));
        CHECK.refused(41, x, "mirror(1, 1000)", NoonJars.BAD, () -> x.mirror(1, 1000));
        x.night();
        CHECK.tells(41, x, "mirror(1, 1) on DAY 1", x.mirror(1, 1), 2, 1);
        NoonJars y = Check.land("y1s00000001v1000");
        CHECK.tells(41, y, "mirror(1, 999), the slowest", y.mirror(1, 999), 7992, 999);
        NoonJars dark = Check.land("y1s00v9999");
        CHECK.refused(41, dark, "mirror(1, 1) without SUN", NoonJars.NONE, () -> dark.mirror(1, 1));
        NoonJars none = new NoonJars();
        CHECK.refused(41, none, "mirror(1, 1) without LAND", NoonJars.NONE, () -> none.mirror(1, 1));
    }

    private static void lots() {
        String text = "y3s110v1110j12e9c7";
        for (int seed : new int[] {1, 2, 77, 4711, 99999, 1234567890, 2147483646}) {
            NoonJars byLots = Check.land(text);
            NoonJars byHand = Check.land(text);
            int done = 0;
            long lot = seed;
            for (int i = 0; i < 40; i++) {
                lot = lot * 48271 % 2147483647;
                int k = (int) (lot % 3);
                int deed = (int) (lot / 64 % 5);
                int answer = deed == 0 ? byHand.fill(k) : deed == 1 ? byHand.carry(k, 1)
                    : deed == 2 ? byHand.spend(k, 1) : deed == 3 ? byHand.pour(k, (k + 1) % 3) : byHand.night();
                done += answer >= 0 ? 1 : 0;
            }
            CHECK.due(42, "lots(40, " + seed + ")", byLots.lots(40, seed), done);
            CHECK.due(42, "digest()", byLots.digest(), byHand.digest());
            CHECK.due(42, "asked()", byLots.asked(), byHand.asked());
            CHECK.due(42, "count(8): these are DEEDS", byLots.count(8), done);
            CHECK.due(42, "undo()", byLots.undo(), byHand.undo());
        }
        // From 1 comes 48271: JAR 1 of 2, and by 64 it is 754: night().
        NoonJars x = Check.land("y1s1v1000j1j1");
        CHECK.tells(42, x, "lots(1, 1)", x.lots(1, 1), 1, 1);
        CHECK.due(42, "the DAY", x.count(2), 1);
    }

    private static void lotRefusals() {
        NoonJars x = Check.land("y1s1v1000j1j1");
        CHECK.refused(42, x, "lots(0, 1)", NoonJars.BAD, () -> x.lots(0, 1));
        CHECK.refused(42, x, "lots(41, 1)", NoonJars.BAD, () -> x.lots(41, 1));
        CHECK.refused(42, x, "lots(1, 0)", NoonJars.BAD, () -> x.lots(1, 0));
        CHECK.refused(42, x, "lots(1, -1)", NoonJars.BAD, () -> x.lots(1, -1));
        CHECK.refused(42, x, "lots(1, 2147483647)", NoonJars.BAD, () -> x.lots(1, 2147483647));
        NoonJars y = Check.land("y1s1v1000j1");
        CHECK.refused(42, y, "lots(1, 1) of one JAR", NoonJars.STATE, () -> y.lots(1, 1));
        CHECK.refused(42, y, "lots(0, 1) of one JAR", NoonJars.BAD, () -> y.lots(0, 1));
    }
}
