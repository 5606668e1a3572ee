import java.util.Arrays;

/** Noon in jars: light that is filled on a mountain and carried down to valleys without sun. */
public final class NoonJars {
    public static final int BAD = -1, FULL = -2, FINDING = -3, STATE = -4, SPENT = -6, NONE = -9;

    private static final int NOTHING = 1, BEYOND = 2, UNLIKE = 3, NOUGHT = 4, SIZE = 5;
    private static final int ROWS = 6, TEXTS = 4, KEPT = 3, LONGEST = 60, BLANK = 32, MISSING = -1;
    private static final int MOST_JARS = 6, MOST_SIZE = 20, MOST_SUNS = 8, MOST_BURNT = 8;
    private static final int PLACES = 5, MOUNTAIN = 0, LAST_DAY = 999, MOST_COST = 999;
    private static final int MOST_DEEDS = 60, MOST_POURINGS = 60, MOST_POURED_AMONG = 3;
    private static final int FILLED = 0, CARRIED = 1, POURED = 2, SPENT_FROM = 3, STOLEN = 4, NIGHT = 5;
    private static final int COUNTS = 10, JAR_TELLS = 5, PLACE_TELLS = 4;
    private static final int LOT_FACTOR = 48271, LOT_MODULUS = 2147483647;

    private final Row[] rows = new Row[ROWS];
    private final Row[] texts = new Row[TEXTS];
    private final Reader reader = new Reader();
    private final Scene scene = new Scene();
    private final Deeds deeds = new Deeds();
    private final Memory kept = new Memory(KEPT);
    private final int[] keptDays = new int[KEPT];
    private final Burnings burnings = new Burnings();
    private final Loads loading = new Loads();
    private final int[] found = new int[SIZE + 1];
    private Plan plan = new Plan();
    private Plan draft = new Plan();
    private Pourings pourings;
    private int asked;
    private int finding;

    public NoonJars() {
        for (int r = 0; r < ROWS; r++) {
            rows[r] = new Row();
        }
        for (int t = 0; t < TEXTS; t++) {
            texts[t] = new Row();
        }
        Arrays.fill(keptDays, MISSING);
    }

    // ---- 1 rows, texts, lands

    public int row(int r, int n) {
        return isWithin(r, 0, ROWS - 1) ? makeRow(rows[r], n, 0) : BAD;
    }

    public int lay(int r, int i, int v) {
        int refusal = refusePlace(rows, r, i);
        if (refusal != 0) {
            return refusal;
        }
        int was = rows[r].places[i];
        rows[r].places[i] = v;
        return tell(1, was);
    }

    public int at(int r, int i) {
        int refusal = refusePlace(rows, r, i);
        return refusal != 0 ? refusal : tell(1, rows[r].places[i]);
    }

    public int tear(int r) {
        int refusal = refuseRow(rows, r);
        if (refusal != 0) {
            return refusal;
        }
        rows[r].size = MISSING;
        return 1;
    }

    public int copy(int r, int i, int to, int j, int n) {
        if (!isWithin(r, 0, ROWS - 1) || !isWithin(to, 0, ROWS - 1)) {
            return BAD;
        }
        if (n < 0) {
            return find(SIZE);
        }
        Row from = rows[r];
        Row target = rows[to];
        if (!from.isThere() || !target.isThere()) {
            return find(NOTHING);
        }
        if (!from.hasFrom(i, n) || !target.hasFrom(j, n)) {
            return find(BEYOND);
        }
        System.arraycopy(from.places, i, target.places, j, n);
        return 1;
    }

    public int mean(int r) {
        int refusal = refuseRow(rows, r);
        if (refusal != 0) {
            return refusal;
        }
        Row row = rows[r];
        if (row.size == 0) {
            return find(NOUGHT);
        }
        return tell(1, (int) (row.sum() / row.size));
    }

    public int text(int t, int n) {
        return isWithin(t, 0, TEXTS - 1) ? makeRow(texts[t], n, BLANK) : BAD;
    }

    public int put(int t, int i, int v) {
        int refusal = refusePlace(texts, t, i);
        if (refusal != 0) {
            return refusal;
        }
        int was = texts[t].places[i];
        texts[t].places[i] = (byte) v;
        return was + 1000;
    }

    public int fault(int t) {
        int refusal = refuseRow(texts, t);
        return refusal != 0 ? refusal : reader.read(texts[t], draft);
    }

    public int land(int t) {
        int refusal = refuseRow(texts, t);
        if (refusal != 0) {
            return refusal;
        }
        if (reader.read(texts[t], draft) != NONE) {
            return STATE;
        }
        Plan old = plan;
        plan = draft;
        draft = old;
        scene.clear();
        deeds.clear();
        burnings.size = 0;
        Arrays.fill(keptDays, MISSING);
        return plan.jarCount;
    }

    public int jar(int k, int what) {
        if (!isJar(k) || !isWithin(what, 0, JAR_TELLS - 1)) {
            return BAD;
        }
        return tell(1, jarTells(k, what));
    }

    public int mark(int k, int kind) {
        if (!isJar(k) || !isWithin(kind, Kinds.CLAY, Kinds.DUSK)) {
            return BAD;
        }
        if (!Kinds.is(plan.kinds[k], kind)) {
            return find(UNLIKE);
        }
        int own = plan.kinds[k];
        int light = scene.light[k];
        switch (kind) {
            case Kinds.CLAY:
                return Kinds.leaked(own, light, true) - Kinds.leaked(Kinds.JAR, light, true);
            case Kinds.SEALED:
                // What leaks at all leaks in every night, so the first one is the next.
                return Kinds.leaked(own, light, scene.opened[k] != 0) > 0 ? 0 : NONE;
            case Kinds.DAWN:
                return Kinds.hours(Kinds.JAR, light) - Kinds.hours(own, light);
            case Kinds.LIDDED:
                return Kinds.hours(own, light);
            default:
                return light - Kinds.hours(own, light) * Kinds.anHour(own);
        }
    }

    public int place(int p, int what) {
        if (!isPlace(p) || !isWithin(what, 0, PLACE_TELLS - 1)) {
            return BAD;
        }
        return tell(1, placeTells(p, what));
    }

    public int sun(int day) {
        if (!isWithin(day, 0, LAST_DAY)) {
            return BAD;
        }
        return plan.isBright(day) ? 1 : 0;
    }

    // ---- 2 deeds

    public int fill(int k) {
        if (!isJar(k)) {
            return BAD;
        }
        if (scene.where[k] != MOUNTAIN || !plan.isBright(scene.day)) {
            return STATE;
        }
        deeds.remember(FILLED, scene);
        int came = plan.sizes[k] - scene.light[k];
        scene.light[k] = plan.sizes[k];
        scene.opened[k] = 0;
        return came;
    }

    public int carry(int k, int on) {
        if (!isJar(k) || !isWithin(on, 0, 1)) {
            return BAD;
        }
        int to = scene.where[k] + (on == 1 ? 1 : -1);
        if (!isPlace(to) || scene.mulesGone >= plan.mules) {
            return STATE;
        }
        deeds.remember(CARRIED, scene);
        scene.where[k] = to;
        scene.mulesGone++;
        return to;
    }

    public int pour(int k, int j) {
        if (!isJar(k) || !isJar(j) || k == j) {
            return BAD;
        }
        int taken = Kinds.taken(scene.light[k], plan.sizes[j] - scene.light[j]);
        int over = Kinds.comesOver(taken);
        if (scene.where[k] != scene.where[j] || over == 0) {
            return STATE;
        }
        deeds.remember(POURED, scene);
        scene.light[k] -= taken;
        scene.light[j] += over;
        scene.opened[k] = 1;
        scene.opened[j] = 1;
        return tell(over, taken - over);
    }

    public int spend(int k, int n) {
        if (!isJar(k) || !isWithin(n, 1, MOST_SIZE)) {
            return BAD;
        }
        int kind = plan.kinds[k];
        if (Kinds.hours(kind, scene.light[k]) < n) {
            return STATE;
        }
        deeds.remember(SPENT_FROM, scene);
        scene.light[k] -= n * Kinds.anHour(kind);
        scene.opened[k] = 1;
        scene.hours[scene.where[k]] += n;
        return scene.light[k];
    }

    public int steal(int k, int n) {
        if (!isJar(k) || !isWithin(n, 1, MOST_SIZE)) {
            return BAD;
        }
        if (scene.light[k] < n || plan.kinds[k] == Kinds.LIDDED) {
            return STATE;
        }
        deeds.remember(STOLEN, scene);
        scene.light[k] -= n;
        return scene.light[k];
    }

    public int night() {
        if (scene.day >= LAST_DAY) {
            return FULL;
        }
        deeds.remember(NIGHT, scene);
        int leaked = leakAll();
        int dark = countDark();
        scene.startDay();
        return tell(leaked, dark);
    }

    public int undo() {
        return deeds.size == 0 ? STATE : deeds.takeBack(scene);
    }

    public int keep(int k) {
        if (!isWithin(k, 0, KEPT - 1)) {
            return BAD;
        }
        if (plan.jarCount == 0) {
            return STATE;
        }
        kept.save(k, scene);
        keptDays[k] = scene.day;
        return scene.day;
    }

    public int on(int k) {
        if (!isWithin(k, 0, KEPT - 1)) {
            return BAD;
        }
        if (keptDays[k] == MISSING) {
            return find(NOTHING);
        }
        kept.recall(k, scene);
        deeds.clear();
        return scene.day;
    }

    // ---- 3 what jars bring

    public int brings(int k, int p) {
        if (!isJar(k) || !isPlace(p)) {
            return BAD;
        }
        return tell(plan.lightBrought(k, p), plan.hoursBrought(k, p));
    }

    public int best(int p) {
        if (!isPlace(p)) {
            return BAD;
        }
        if (plan.jarCount == 0) {
            return STATE;
        }
        int best = 0;
        for (int k = 1; k < plan.jarCount; k++) {
            if (plan.hoursBrought(k, p) > plan.hoursBrought(best, p)) {
                best = k;
            }
        }
        return tell(best, plan.hoursBrought(best, p));
    }

    public int loads() {
        if (plan.jarCount == 0) {
            return STATE;
        }
        loading.choose(plan);
        return tell(loading.litValleys(), loading.figures());
    }

    public int needs(int v) {
        if (!isValley(v)) {
            return BAD;
        }
        int best = NONE;
        for (int set = 0; set < 1 << plan.jarCount; set++) {
            boolean fewer = best == NONE || Integer.bitCount(set) < Integer.bitCount(best);
            if (fewer && plan.hoursOfSet(set, v) >= plan.needs[v]) {
                best = set;
            }
        }
        return best == NONE ? NONE : tell(Integer.bitCount(best), best);
    }

    public int store(int h, int d) {
        if (!isWithin(h, 1, 9) || !isWithin(d, 1, 20)) {
            return BAD;
        }
        int least = h;
        for (int day = 1; day < d; day++) {
            least = h + Kinds.leastAheadOfNight(least);
        }
        int left = least - h;
        for (int day = 1; day < d; day++) {
            left = left - Kinds.leaked(Kinds.JAR, left, true) - h;
        }
        return tell(least, left);
    }

    // ---- 4 pouring (from as it is; it stays)

    public int pours(int k, int n) {
        int refusal = refusePouring(k, n);
        if (refusal != 0) {
            return refusal;
        }
        Pourings all = pouringsFrom(k);
        int end = all.firstWith(k, n);
        if (end == NONE) {
            return NONE;
        }
        int steps = all.steps(end);
        return steps > MOST_POURINGS ? SPENT : tell(steps, all.spilt(end));
    }

    public int way(int k, int n, int r) {
        int refusal = isWithin(r, 0, ROWS - 1) ? refusePouring(k, n) : BAD;
        if (refusal != 0) {
            return refusal;
        }
        Pourings all = pouringsFrom(k);
        int end = all.firstWith(k, n);
        if (end == NONE) {
            return NONE;
        }
        int steps = all.steps(end);
        if (steps > MOST_POURINGS) {
            return SPENT;
        }
        all.writeWay(end, steps, rows[r]);
        return steps;
    }

    public int loss(int k, int n) {
        int refusal = refusePouring(k, n);
        return refusal != 0 ? refusal : pouringsFrom(k).leastSpilt(k, n);
    }

    public int most(int k) {
        int refusal = refusePouring(k, 0);
        if (refusal != 0) {
            return refusal;
        }
        Pourings all = pouringsFrom(k);
        return tell(all.mostIn(k), all.size);
    }

    // ---- 5 bad light, thefts, seats, mirrors

    public int burnt(int set, int n) {
        if (!isWithin(set, 1, (1 << plan.jarCount) - 1) || !isWithin(n, 0, MOST_JARS * MOST_SIZE)) {
            return BAD;
        }
        if (burnings.size == MOST_BURNT) {
            return FULL;
        }
        return burnings.add(set, n);
    }

    public int forget(int n) {
        if (!isWithin(n, 0, burnings.size)) {
            return BAD;
        }
        int gone = burnings.size - n;
        burnings.size = n;
        return gone;
    }

    public int mixed() {
        if (plan.jarCount == 0) {
            return STATE;
        }
        int sets = burnings.gather(plan);
        return sets == 0 ? NONE : tell(sets, burnings.possible[0]);
    }

    public int sure() {
        if (plan.jarCount == 0) {
            return STATE;
        }
        if (burnings.gather(plan) == 0) {
            return find(NOUGHT);
        }
        return tell(burnings.inAll(), (1 << plan.jarCount) - 1 - burnings.inAny());
    }

    public int test() {
        if (plan.jarCount == 0) {
            return STATE;
        }
        if (burnings.gather(plan) == 0) {
            return find(NOUGHT);
        }
        int next = burnings.nextToBurn(plan);
        return tell(next, burnings.mostLeft(next, plan));
    }

    public int theft(int r, int kind) {
        int refusal = isWithin(kind, Kinds.JAR, Kinds.DUSK) ? refuseRow(rows, r) : BAD;
        if (refusal != 0) {
            return refusal;
        }
        Row row = rows[r];
        if (row.size < 2) {
            return find(SIZE);
        }
        if (!row.isAllWithin(0, MOST_SIZE)) {
            return find(UNLIKE);
        }
        for (int post = 1; post < row.size; post++) {
            int ahead = row.places[post - 1];
            int due = ahead - Kinds.leaked(kind, ahead, false);
            if (row.places[post] < due) {
                return tell(post, due - row.places[post]);
            }
        }
        return NONE;
    }

    public int seats(int n, int r, int to) {
        int refusal = isWithin(n, 0, 99) && isWithin(to, 0, ROWS - 1) ? refuseRow(rows, r) : BAD;
        if (refusal != 0) {
            return refusal;
        }
        Row seats = rows[r];
        if (!isWithin(seats.size, 1, 6)) {
            return find(SIZE);
        }
        if (!seats.isAllWithin(0, 99)) {
            return find(UNLIKE);
        }
        if (seats.sum() == 0) {
            return find(NOUGHT);
        }
        return share(n, seats, rows[to]);
    }

    public int mirror(int v, int c) {
        if (!isValley(v) || !isWithin(c, 1, MOST_COST)) {
            return BAD;
        }
        int need = plan.needs[v];
        if (need == 0) {
            return NONE;
        }
        int bright = 0;
        // One HOUR a DAY and one SUN in all the figures is the slowest that ever pays.
        for (int day = 0; day < MOST_SUNS * MOST_COST; day++) {
            if (plan.isBright(day)) {
                bright++;
            }
            if (bright * need >= c) {
                return tell(day + 1, bright);
            }
        }
        return NONE;
    }

    public int lots(int n, int seed) {
        if (!isWithin(n, 1, 40) || !isWithin(seed, 1, LOT_MODULUS - 1)) {
            return BAD;
        }
        if (plan.jarCount < 2) {
            return STATE;
        }
        int done = 0;
        long lot = seed;
        for (int i = 0; i < n; i++) {
            lot = lot * LOT_FACTOR % LOT_MODULUS;
            if (doLot((int) (lot % plan.jarCount), (int) (lot / 64 % 5)) >= 0) {
                done++;
            }
        }
        return done;
    }

    // ---- 6 what is told

    public int asked() {
        return asked;
    }

    public long upper() {
        return plan.jarCount == 0 ? 0 : allLight() / commonDivisor(allLight(), plan.allSizes());
    }

    public long lower() {
        return plan.jarCount == 0 ? 1 : plan.allSizes() / commonDivisor(allLight(), plan.allSizes());
    }

    public int count(int what) {
        switch (what) {
            case 0:
                return plan.jarCount;
            case 1:
                return allLight();
            case 2:
                return scene.day;
            case 3:
                return plan.mules - scene.mulesGone;
            case 4:
                return plan.countOf(Kinds.SEALED);
            case 5:
                return plan.countOf(Kinds.DAWN);
            case 6:
                return countThere(rows);
            case 7:
                return countThere(texts);
            case 8:
                return deeds.size;
            case 9:
                return burnings.size;
            default:
                return BAD;
        }
    }

    public int finding() {
        return finding;
    }

    public int findings(int f) {
        return isWithin(f, NOTHING, SIZE) ? found[f] : BAD;
    }

    public long digest() {
        long h = 17;
        for (int what = 0; what < COUNTS; what++) {
            h = 31 * h + count(what);
        }
        for (int k = 0; k < plan.jarCount; k++) {
            for (int what = 0; what < JAR_TELLS; what++) {
                h = 31 * h + jarTells(k, what);
            }
        }
        for (int p = 0; p < PLACES; p++) {
            for (int what = 0; what < PLACE_TELLS; what++) {
                h = 31 * h + placeTells(p, what);
            }
        }
        for (int b = 0; b < burnings.size; b++) {
            h = 31 * h + burnings.sets[b];
            h = 31 * h + burnings.hours[b];
        }
        for (int k = 0; k < KEPT; k++) {
            h = 31 * h + keptDays[k];
        }
        return digestRows(digestRows(h, rows), texts);
    }

    // ---- helpers

    private static boolean isWithin(int v, int least, int greatest) {
        return v >= least && v <= greatest;
    }

    private boolean isJar(int k) {
        return isWithin(k, 0, plan.jarCount - 1);
    }

    private static boolean isPlace(int p) {
        return isWithin(p, MOUNTAIN, PLACES - 1);
    }

    private static boolean isValley(int p) {
        return isPlace(p) && p != MOUNTAIN;
    }

    private int find(int f) {
        finding = f;
        found[f]++;
        return FINDING;
    }

    private int tell(int answer, int told) {
        asked = told;
        return answer;
    }

    /** BAD, NOTHING, or 0 if a ROW (a TEXT) is there. */
    private int refuseRow(Row[] all, int r) {
        if (!isWithin(r, 0, all.length - 1)) {
            return BAD;
        }
        return all[r].isThere() ? 0 : find(NOTHING);
    }

    /** BAD, NOTHING, BEYOND, or 0 if a ROW (a TEXT) has a place. */
    private int refusePlace(Row[] all, int r, int i) {
        int refusal = refuseRow(all, r);
        if (refusal != 0) {
            return refusal;
        }
        return all[r].has(i) ? 0 : find(BEYOND);
    }

    private int makeRow(Row row, int n, int v) {
        if (n > LONGEST) {
            return BAD;
        }
        if (n < 0) {
            return find(SIZE);
        }
        row.makeAnew(n, v);
        return n;
    }

    private int jarTells(int k, int what) {
        switch (what) {
            case 0:
                return plan.kinds[k];
            case 1:
                return plan.sizes[k];
            case 2:
                return scene.light[k];
            case 3:
                return scene.where[k];
            default:
                return scene.opened[k];
        }
    }

    private int placeTells(int p, int what) {
        switch (what) {
            case 0:
                return plan.needs[p];
            case 1:
                return scene.hours[p];
            case 2:
                return scene.darkDays[p];
            default:
                return lightAt(p);
        }
    }

    private int lightAt(int p) {
        int sum = 0;
        for (int k = 0; k < plan.jarCount; k++) {
            if (scene.where[k] == p) {
                sum += scene.light[k];
            }
        }
        return sum;
    }

    private int allLight() {
        int sum = 0;
        for (int k = 0; k < plan.jarCount; k++) {
            sum += scene.light[k];
        }
        return sum;
    }

    private int leakAll() {
        int sum = 0;
        for (int k = 0; k < plan.jarCount; k++) {
            int leaked = Kinds.leaked(plan.kinds[k], scene.light[k], scene.opened[k] != 0);
            scene.light[k] -= leaked;
            sum += leaked;
        }
        return sum;
    }

    private int countDark() {
        int dark = 0;
        for (int v = 1; v < PLACES; v++) {
            if (scene.hours[v] < plan.needs[v]) {
                scene.darkDays[v]++;
                dark++;
            }
        }
        return dark;
    }

    /** BAD, SPENT, or 0 if pourings from a JAR's PLACE till it holds n can be looked for. */
    private int refusePouring(int k, int n) {
        if (!isJar(k) || !isWithin(n, 0, MOST_SIZE)) {
            return BAD;
        }
        int there = 0;
        for (int j = 0; j < plan.jarCount; j++) {
            if (scene.where[j] == scene.where[k]) {
                there++;
            }
        }
        return there > MOST_POURED_AMONG ? SPENT : 0;
    }

    private Pourings pouringsFrom(int k) {
        // Its rows are by far the longest of all: only an object that asks for them has them.
        if (pourings == null) {
            pourings = new Pourings();
        }
        pourings.explore(plan, scene, scene.where[k]);
        return pourings;
    }

    /** Shares n parts by seats; the ROW that the shares come to may be that of the seats. */
    private static int share(int n, Row seats, Row to) {
        int among = seats.size;
        int[] parts = new int[among];
        int greatest = 0;
        for (int part = 0; part < n; part++) {
            int next = 0;
            for (int i = 1; i < among; i++) {
                if (seats.places[i] * (parts[next] + 1) > seats.places[next] * (parts[i] + 1)) {
                    next = i;
                }
            }
            parts[next]++;
            greatest = Math.max(greatest, parts[next]);
        }
        to.makeAnew(among, 0);
        System.arraycopy(parts, 0, to.places, 0, among);
        return greatest;
    }

    /** Does what a lot says, as a call would; below 0 if it can't be. */
    private int doLot(int k, int deed) {
        switch (deed) {
            case 0:
                return fill(k);
            case 1:
                return carry(k, 1);
            case 2:
                return spend(k, 1);
            case 3:
                return pour(k, k + 1 < plan.jarCount ? k + 1 : 0);
            default:
                return night();
        }
    }

    private static int commonDivisor(int part, int whole) {
        for (int d = whole; d > 1; d--) {
            if (part % d == 0 && whole % d == 0) {
                return d;
            }
        }
        return 1;
    }

    private static int countThere(Row[] all) {
        int there = 0;
        for (int r = 0; r < all.length; r++) {
            if (all[r].isThere()) {
                there++;
            }
        }
        return there;
    }

    private static long digestRows(long start, Row[] all) {
        long h = start;
        for (int r = 0; r < all.length; r++) {
            h = 31 * h + all[r].size;
            for (int i = 0; i < all[r].size; i++) {
                h = 31 * h + all[r].places[i];
            }
        }
        return h;
    }

    /** What holds for KINDS of JARS, whichever JAR it is, and for LIGHT that is poured. */
    private static final class Kinds {
        static final int JAR = 0, CLAY = 1, SEALED = 2, DAWN = 3, LIDDED = 4, DUSK = 5;
        private static final char[] LETTERS = {'j', 'c', 'e', 'd', 'l', 'u'};

        static int byLetter(int sign) {
            for (int kind = 0; kind < LETTERS.length; kind++) {
                if (LETTERS[kind] == sign) {
                    return kind;
                }
            }
            return NONE;
        }

        static boolean is(int kind, int other) {
            return kind == other || other == JAR
                || kind == LIDDED && other == SEALED || kind == DUSK && other == DAWN;
        }

        static int leaked(int kind, int light, boolean opened) {
            if (kind == LIDDED || kind == SEALED && !opened) {
                return 0;
            }
            return kind == CLAY ? tenthsUp(2 * light) : tenthsUp(light);
        }

        static int anHour(int kind) {
            if (kind == DUSK) {
                return 3;
            }
            return kind == DAWN ? 2 : 1;
        }

        static int hours(int kind, int light) {
            return light / anHour(kind);
        }

        /** The most of a JAR's LIGHT of which what comes over has room. */
        static int taken(int light, int room) {
            return Math.min(light, (10 * room + 9) / 9);
        }

        static int comesOver(int taken) {
            return taken - tenthsUp(taken);
        }

        /** The least LIGHT in a JAR of which so much is there behind a NIGHT. */
        static int leastAheadOfNight(int light) {
            return (10 * light + 8) / 9;
        }

        private static int tenthsUp(int n) {
            return (n + 9) / 10;
        }
    }

    /** A ROW, or a TEXT: its places beyond its size are free. */
    private static final class Row {
        private final int[] places = new int[LONGEST];
        private int size = MISSING;

        boolean isThere() {
            return size != MISSING;
        }

        boolean has(int i) {
            return i >= 0 && i < size;
        }

        boolean hasFrom(int i, int n) {
            return i >= 0 && i <= size && n <= size - i;
        }

        void makeAnew(int n, int v) {
            size = n;
            Arrays.fill(places, v);
        }

        long sum() {
            long sum = 0;
            for (int i = 0; i < size; i++) {
                sum += places[i];
            }
            return sum;
        }

        boolean isAllWithin(int least, int greatest) {
            for (int i = 0; i < size; i++) {
                if (!isWithin(places[i], least, greatest)) {
                    return false;
                }
            }
            return true;
        }
    }

    /** What a LAND's TEXT says, which no DEED changes. */
    private static final class Plan {
        private int mules;
        private int sunCount;
        private int jarCount;
        private final int[] suns = new int[MOST_SUNS];
        private final int[] needs = new int[PLACES];
        private final int[] kinds = new int[MOST_JARS];
        private final int[] sizes = new int[MOST_JARS];

        boolean isBright(int day) {
            return sunCount > 0 && suns[day % sunCount] == 1;
        }

        int allSizes() {
            int sum = 0;
            for (int k = 0; k < jarCount; k++) {
                sum += sizes[k];
            }
            return sum;
        }

        int countOf(int kind) {
            int sum = 0;
            for (int k = 0; k < jarCount; k++) {
                if (Kinds.is(kinds[k], kind)) {
                    sum++;
                }
            }
            return sum;
        }

        int lightBrought(int k, int p) {
            int light = sizes[k];
            for (int night = 0; night < p; night++) {
                light -= Kinds.leaked(kinds[k], light, false);
            }
            return light;
        }

        int hoursBrought(int k, int p) {
            return Kinds.hours(kinds[k], lightBrought(k, p));
        }

        int hoursOfSet(int set, int p) {
            int sum = 0;
            for (int k = 0; k < jarCount; k++) {
                if ((set >> k & 1) == 1) {
                    sum += hoursBrought(k, p);
                }
            }
            return sum;
        }
    }

    /** Reads a LAND's TEXT from place to place, up to its FAULT. */
    private static final class Reader {
        private static final int END = 1000;
        private Row text;
        private int next;

        /** The FAULT, or NONE; what comes to the plan is of use only if there is none. */
        int read(Row from, Plan plan) {
            text = from;
            next = 0;
            boolean good = readMules(plan) && readSuns(plan) && readNeeds(plan) && readJars(plan);
            return good ? NONE : next;
        }

        private boolean readMules(Plan plan) {
            if (!readLetter('y') || !isWithin(figure(), 1, 6)) {
                return false;
            }
            plan.mules = figure();
            next++;
            return true;
        }

        private boolean readSuns(Plan plan) {
            if (!readLetter('s')) {
                return false;
            }
            plan.sunCount = 0;
            while (plan.sunCount < MOST_SUNS && isWithin(figure(), 0, 1)) {
                plan.suns[plan.sunCount] = figure();
                plan.sunCount++;
                next++;
            }
            return plan.sunCount > 0;
        }

        private boolean readNeeds(Plan plan) {
            if (!readLetter('v')) {
                return false;
            }
            for (int v = 1; v < PLACES; v++) {
                if (figure() == NONE) {
                    return false;
                }
                plan.needs[v] = figure();
                next++;
            }
            return true;
        }

        private boolean readJars(Plan plan) {
            plan.jarCount = 0;
            skipBlanks();
            for (int k = 0; k < MOST_JARS && sign() != END; k++) {
                if (!readJar(plan, k)) {
                    return false;
                }
                plan.jarCount++;
                skipBlanks();
            }
            return sign() == END;
        }

        private boolean readJar(Plan plan, int k) {
            int kind = Kinds.byLetter(sign());
            if (kind == NONE) {
                return false;
            }
            next++;
            int size = figure();
            if (size == NONE) {
                return false;
            }
            next++;
            if (figure() != NONE) {
                size = 10 * size + figure();
                next++;
            }
            if (!isWithin(size, 1, MOST_SIZE)) {
                return false;
            }
            plan.kinds[k] = kind;
            plan.sizes[k] = size;
            return true;
        }

        private boolean readLetter(char letter) {
            skipBlanks();
            if (sign() != letter) {
                return false;
            }
            next++;
            return true;
        }

        private void skipBlanks() {
            while (next < LONGEST && sign() == BLANK) {
                next++;
            }
        }

        private int sign() {
            return text != null && text.has(next) ? text.places[next] : END;
        }

        private int figure() {
            return isWithin(sign(), '0', '9') ? sign() - '0' : NONE;
        }
    }

    /** All that DEEDS change. */
    private static final class Scene {
        private final int[] light = new int[MOST_JARS];
        private final int[] where = new int[MOST_JARS];
        private final int[] opened = new int[MOST_JARS];
        private final int[] hours = new int[PLACES];
        private final int[] darkDays = new int[PLACES];
        private int day;
        private int mulesGone;

        void clear() {
            Arrays.fill(light, 0);
            Arrays.fill(where, MOUNTAIN);
            Arrays.fill(opened, 0);
            Arrays.fill(hours, 0);
            Arrays.fill(darkDays, 0);
            day = 0;
            mulesGone = 0;
        }

        void startDay() {
            Arrays.fill(hours, 0);
            mulesGone = 0;
            day++;
        }
    }

    /** Scenes that are kept, in one row, for one object each would be many. */
    private static final class Memory {
        private static final int LIGHT = 0, WHERE = 6, OPENED = 12, HOURS = 18, DARK = 23, DAY = 28, GONE = 29;
        private static final int WIDTH = 30;
        private final int[] all;

        Memory(int scenes) {
            all = new int[Math.max(scenes, 0) * WIDTH];
        }

        void save(int n, Scene scene) {
            int from = n * WIDTH;
            if (!isSlot(from)) {
                return;
            }
            System.arraycopy(scene.light, 0, all, from + LIGHT, MOST_JARS);
            System.arraycopy(scene.where, 0, all, from + WHERE, MOST_JARS);
            System.arraycopy(scene.opened, 0, all, from + OPENED, MOST_JARS);
            System.arraycopy(scene.hours, 0, all, from + HOURS, PLACES);
            System.arraycopy(scene.darkDays, 0, all, from + DARK, PLACES);
            all[from + DAY] = scene.day;
            all[from + GONE] = scene.mulesGone;
        }

        void recall(int n, Scene scene) {
            int from = n * WIDTH;
            if (!isSlot(from)) {
                return;
            }
            System.arraycopy(all, from + LIGHT, scene.light, 0, MOST_JARS);
            System.arraycopy(all, from + WHERE, scene.where, 0, MOST_JARS);
            System.arraycopy(all, from + OPENED, scene.opened, 0, MOST_JARS);
            System.arraycopy(all, from + HOURS, scene.hours, 0, PLACES);
            System.arraycopy(all, from + DARK, scene.darkDays, 0, PLACES);
            scene.day = all[from + DAY];
            scene.mulesGone = all[from + GONE];
        }

        private boolean isSlot(int from) {
            return from >= 0 && from + WIDTH <= all.length;
        }
    }

    /** The latest DEEDS: of each its sort and the scene ahead of it, in a ring. */
    private static final class Deeds {
        private final Memory scenes = new Memory(MOST_DEEDS);
        private final int[] sorts = new int[MOST_DEEDS];
        private int first;
        private int size;

        void clear() {
            size = 0;
        }

        void remember(int sort, Scene scene) {
            if (size == MOST_DEEDS) {
                first = (first + 1) % MOST_DEEDS;
                size--;
            }
            int slot = (first + size) % MOST_DEEDS;
            sorts[slot] = sort;
            scenes.save(slot, scene);
            size++;
        }

        /** To be called only while there is one. */
        int takeBack(Scene scene) {
            size--;
            int slot = (first + size) % MOST_DEEDS;
            scenes.recall(slot, scene);
            return sorts[slot];
        }
    }

    /**
     * Which JARS to which VALLEYS: of all ways to use just the JARS of a set the cheapest, VALLEY by VALLEY.
     * A price adds up what is wanted in its order: most VALLEYS lit, fewest JARS, least figures.
     */
    private static final class Loads {
        private static final int BASE = 5, A_JAR = 15625, A_VALLEY = 1000000, NEVER = 1000000000;
        private final int[] cheapest = new int[1 << MOST_JARS];
        private final int[] lighting = new int[1 << MOST_JARS];
        private int price;

        void choose(Plan plan) {
            int sets = 1 << plan.jarCount;
            Arrays.fill(cheapest, NEVER);
            cheapest[0] = 0;
            for (int v = 1; v < PLACES; v++) {
                if (plan.needs[v] > 0) {
                    priceLighting(plan, v, sets);
                    addValley(sets);
                }
            }
            price = 0;
            for (int set = 0; set < sets; set++) {
                price = Math.min(price, cheapest[set]);
            }
        }

        int litValleys() {
            return -Math.floorDiv(price, A_VALLEY);
        }

        int figures() {
            return Math.floorMod(price, A_VALLEY) % A_JAR;
        }

        private void priceLighting(Plan plan, int v, int sets) {
            for (int set = 0; set < sets; set++) {
                boolean lit = plan.hoursOfSet(set, v) >= plan.needs[v];
                int jars = Integer.bitCount(set) * A_JAR;
                lighting[set] = lit ? jars + figuresOf(plan, set, v) - A_VALLEY : NEVER;
            }
        }

        private static int figuresOf(Plan plan, int set, int v) {
            int figures = 0;
            for (int k = 0; k < plan.jarCount; k++) {
                figures = BASE * figures + ((set >> k & 1) == 1 ? v : 0);
            }
            return figures;
        }

        private void addValley(int sets) {
            // From the greatest set down, so that the smaller ones are still without this VALLEY.
            for (int set = sets - 1; set > 0; set--) {
                for (int part = set; part > 0; part = (part - 1) & set) {
                    if (lighting[part] < NEVER) {
                        cheapest[set] = Math.min(cheapest[set], cheapest[set ^ part] + lighting[part]);
                    }
                }
            }
        }
    }

    /**
     * All that pourings can make of the JARS of a PLACE, in the order in which they are come to first:
     * by how many pourings, then by the first row of these.
     */
    private static final class Pourings {
        private static final int BASE = MOST_SIZE + 1, STATES = BASE * BASE * BASE, MOVES = 36;
        private static final int[] UNITS = {1, 21, 441};
        private final int[] states = new int[STATES];
        private final int[] comeBy = new int[STATES];
        private final int[] stamps = new int[STATES];
        private final int[] jars = new int[MOST_POURED_AMONG];
        private final int[] sizes = new int[MOST_POURED_AMONG];
        private int stamp;
        private int jarCount;
        private int size;

        void explore(Plan plan, Scene scene, int p) {
            // A new stamp forgets all states that were come to before, without going through them.
            stamp++;
            size = 0;
            comeTo(gather(plan, scene, p), 0, 0);
            for (int i = 0; i < size && i < STATES; i++) {
                pourFrom(i);
            }
        }

        /** The first state in which a JAR holds just n, or NONE. */
        int firstWith(int k, int n) {
            int slot = slotOf(k);
            for (int i = 0; i < size; i++) {
                if (held(states[i], slot) == n) {
                    return i;
                }
            }
            return NONE;
        }

        int steps(int end) {
            int steps = 0;
            // State 0 is the start, and each state is come to from one ahead of it.
            for (int i = end; i > 0 && steps < STATES; i = comeBy[i] / MOVES) {
                steps++;
            }
            return steps;
        }

        int spilt(int end) {
            return total(states[0]) - total(states[end]);
        }

        void writeWay(int end, int steps, Row row) {
            row.makeAnew(steps, 0);
            int place = steps - 1;
            for (int i = end; i > 0 && place >= 0; i = comeBy[i] / MOVES) {
                row.places[place] = comeBy[i] % MOVES;
                place--;
            }
        }

        int leastSpilt(int k, int n) {
            int slot = slotOf(k);
            int least = NONE;
            for (int i = 0; i < size; i++) {
                if (held(states[i], slot) == n && (least == NONE || spilt(i) < least)) {
                    least = spilt(i);
                }
            }
            return least;
        }

        int mostIn(int k) {
            int slot = slotOf(k);
            int most = 0;
            for (int i = 0; i < size; i++) {
                most = Math.max(most, held(states[i], slot));
            }
            return most;
        }

        private int gather(Plan plan, Scene scene, int p) {
            int state = 0;
            jarCount = 0;
            for (int k = 0; k < plan.jarCount; k++) {
                if (scene.where[k] == p && jarCount < MOST_POURED_AMONG) {
                    jars[jarCount] = k;
                    sizes[jarCount] = plan.sizes[k];
                    state += scene.light[k] * UNITS[jarCount];
                    jarCount++;
                }
            }
            return state;
        }

        private void pourFrom(int i) {
            int state = states[i];
            for (int from = 0; from < jarCount; from++) {
                for (int to = 0; to < jarCount; to++) {
                    int taken = Kinds.taken(held(state, from), sizes[to] - held(state, to));
                    int over = Kinds.comesOver(taken);
                    if (from != to && over > 0) {
                        int then = state - taken * UNITS[from] + over * UNITS[to];
                        comeTo(then, i, MOST_JARS * jars[from] + jars[to]);
                    }
                }
            }
        }

        private void comeTo(int state, int from, int move) {
            if (isWithin(state, 0, STATES - 1) && stamps[state] != stamp && size < STATES) {
                stamps[state] = stamp;
                states[size] = state;
                comeBy[size] = MOVES * from + move;
                size++;
            }
        }

        private int slotOf(int k) {
            for (int slot = 0; slot < jarCount; slot++) {
                if (jars[slot] == k) {
                    return slot;
                }
            }
            return 0;
        }

        private static int held(int state, int slot) {
            return state / UNITS[slot] % BASE;
        }

        private static int total(int state) {
            return held(state, 0) + held(state, 1) + held(state, 2);
        }
    }

    /** What was BURNT, and which sets of JARS can have dawn in them by that. */
    private static final class Burnings {
        private final int[] sets = new int[MOST_BURNT];
        private final int[] hours = new int[MOST_BURNT];
        private final int[] possible = new int[1 << MOST_JARS];
        private final int[] tally = new int[MOST_JARS * MOST_SIZE + 1];
        private int size;
        private int possibleCount;

        /** To be called only while there is room. */
        int add(int set, int n) {
            sets[size] = set;
            hours[size] = n;
            size++;
            return size - 1;
        }

        int gather(Plan plan) {
            possibleCount = 0;
            for (int dawn = 0; dawn < 1 << plan.jarCount; dawn++) {
                if (canBe(dawn, plan)) {
                    possible[possibleCount] = dawn;
                    possibleCount++;
                }
            }
            return possibleCount;
        }

        int inAll() {
            int all = possible[0];
            for (int i = 1; i < possibleCount; i++) {
                all &= possible[i];
            }
            return all;
        }

        int inAny() {
            int any = 0;
            for (int i = 0; i < possibleCount; i++) {
                any |= possible[i];
            }
            return any;
        }

        int nextToBurn(Plan plan) {
            int next = 1;
            int fewest = mostLeft(next, plan);
            for (int set = 2; set < 1 << plan.jarCount; set++) {
                int left = mostLeft(set, plan);
                boolean smaller = Integer.bitCount(set) < Integer.bitCount(next);
                if (left < fewest || left == fewest && smaller) {
                    next = set;
                    fewest = left;
                }
            }
            return next;
        }

        /** How many sets are left at most, if a set of JARS is burnt. */
        int mostLeft(int set, Plan plan) {
            Arrays.fill(tally, 0);
            int most = 0;
            for (int i = 0; i < possibleCount; i++) {
                int time = burningTime(set, possible[i], plan);
                tally[time]++;
                most = Math.max(most, tally[time]);
            }
            return most;
        }

        private boolean canBe(int dawn, Plan plan) {
            for (int b = 0; b < size; b++) {
                if (burningTime(sets[b], dawn, plan) != hours[b]) {
                    return false;
                }
            }
            return true;
        }

        private static int burningTime(int set, int dawn, Plan plan) {
            int time = 0;
            for (int k = 0; k < plan.jarCount; k++) {
                if ((set >> k & 1) == 1) {
                    time += (dawn >> k & 1) == 1 ? plan.sizes[k] / 2 : plan.sizes[k];
                }
            }
            return time;
        }
    }
}
