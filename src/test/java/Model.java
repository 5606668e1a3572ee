import java.util.ArrayDeque;
import java.util.ArrayList;
import java.util.Arrays;
import java.util.HashMap;
import java.util.List;
import java.util.Map;
import java.util.PriorityQueue;

/**
 * The document once more, as slow and plain as can be, for runs that are compared with NoonJars:
 * tries all there is where NoonJars reckons. The names of the methods are those of the face.
 */
final class Model {
    private static final String LETTERS = "jcedlu";

    private static final class Jar {
        private final int kind;
        private final int size;
        private int light;
        private int place;
        private boolean opened;

        private Jar(int kind, int size) {
            this.kind = kind;
            this.size = size;
        }

        private Jar again() {
            Jar jar = new Jar(kind, size);
            jar.light = light;
            jar.place = place;
            jar.opened = opened;
            return jar;
        }

        private int leak() {
            return leakOf(kind, light, opened);
        }

        private int gives() {
            return light / List.of(1, 1, 1, 2, 1, 3).get(kind);
        }
    }

    private static final class World {
        private List<Jar> jars = new ArrayList<>();
        private int[] hours = new int[5];
        private int[] dark = new int[5];
        private int day;
        private int gone;
        private int sort;

        private World again(int sort) {
            World world = new World();
            for (Jar jar : jars) {
                world.jars.add(jar.again());
            }
            world.hours = hours.clone();
            world.dark = dark.clone();
            world.day = day;
            world.gone = gone;
            world.sort = sort;
            return world;
        }
    }

    private final int[][] rows = new int[6][];
    private final byte[][] texts = new byte[4][];
    private World now = new World();
    private World[] keptOnes = new World[3];
    private ArrayDeque<World> past = new ArrayDeque<>();
    private List<int[]> burntOnes = new ArrayList<>();
    private int mules;
    private String suns = "";
    private String needs = "00000";
    private int asked;
    private int finding;
    private final int[] findings = new int[6];

    private int find(int f) {
        finding = f;
        findings[f]++;
        return -3;
    }

    private int tell(int answer, int told) {
        asked = told;
        return answer;
    }

    private static boolean in(int v, int a, int b) {
        return a <= v && v <= b;
    }

    private int need(int p) {
        return needs.charAt(p) - '0';
    }

    private int size() {
        return now.jars.size();
    }

    private static int up(int n, int tenths) {
        int up = 0;
        while (10 * up < n * tenths) {
            up++;
        }
        return up;
    }

    private static int leakOf(int kind, int light, boolean opened) {
        switch (kind) {
            case 1: return up(light, 2);
            case 2: return opened ? up(light, 1) : 0;
            case 4: return 0;
            default: return up(light, 1);
        }
    }

    int row(int r, int n) {
        if (!in(r, 0, 5) || n > 60) return -1;
        if (n < 0) return find(5);
        rows[r] = new int[n];
        return n;
    }

    int lay(int r, int i, int v) {
        if (!in(r, 0, 5)) return -1;
        if (rows[r] == null) return find(1);
        if (!in(i, 0, rows[r].length - 1)) return find(2);
        tell(1, rows[r][i]);
        rows[r][i] = v;
        return 1;
    }

    int at(int r, int i) {
        if (!in(r, 0, 5)) return -1;
        if (rows[r] == null) return find(1);
        if (!in(i, 0, rows[r].length - 1)) return find(2);
        return tell(1, rows[r][i]);
    }

    int tear(int r) {
        if (!in(r, 0, 5)) return -1;
        if (rows[r] == null) return find(1);
        rows[r] = null;
        return 1;
    }

    int copy(int r, int i, int to, int j, int n) {
        if (!in(r, 0, 5) || !in(to, 0, 5)) return -1;
        if (n < 0) return find(5);
        if (rows[r] == null || rows[to] == null) return find(1);
        if (i < 0 || j < 0 || (long) i + n > rows[r].length || (long) j + n > rows[to].length) return find(2);
        int[] taken = Arrays.copyOfRange(rows[r], i, i + n);
        for (int a = 0; a < n; a++) {
            rows[to][j + a] = taken[a];
        }
        return 1;
    }

    int mean(int r) {
        if (!in(r, 0, 5)) return -1;
        if (rows[r] == null) return find(1);
        if (rows[r].length == 0) return find(4);
        return tell(1, (int) (Arrays.stream(rows[r]).asLongStream().sum() / rows[r].length));
    }

    int text(int t, int n) {
        if (!in(t, 0, 3) || n > 60) return -1;
        if (n < 0) return find(5);
        texts[t] = new byte[n];
        Arrays.fill(texts[t], (byte) 32);
        return n;
    }

    int put(int t, int i, int v) {
        if (!in(t, 0, 3)) return -1;
        if (texts[t] == null) return find(1);
        if (!in(i, 0, texts[t].length - 1)) return find(2);
        int was = texts[t][i];
        texts[t][i] = (byte) v;
        return was + 1000;
    }

    /** Signs that may come, how many at least and at most, one behind the other. */
    private static int faultOf(String s, List<String> items) {
        String figures = "0123456789";
        String[] signs = {" ", "y", "123456", " ", "s", "01", " ", "v", figures, " "};
        int[] least = {0, 1, 1, 0, 1, 1, 0, 1, 4, 0};
        int[] most = {99, 1, 1, 99, 1, 8, 99, 1, 4, 99};
        int i = 0;
        for (int part = 0; part < signs.length; part++) {
            int begin = i;
            while (i < s.length() && i - begin < most[part] && signs[part].indexOf(s.charAt(i)) >= 0) {
                i++;
            }
            if (i - begin < least[part]) return i;
            items.add(s.substring(begin, i));
        }
        for (int jars = 0; i < s.length(); jars++) {
            if (jars == 6 || LETTERS.indexOf(s.charAt(i)) < 0) return i;
            int begin = i++;
            while (i < s.length() && i < begin + 3 && figures.indexOf(s.charAt(i)) >= 0) {
                i++;
            }
            if (i == begin + 1 || !in(Integer.parseInt(s.substring(begin + 1, i)), 1, 20)) return i;
            items.add(s.substring(begin, i));
            while (i < s.length() && s.charAt(i) == ' ') {
                i++;
            }
        }
        return -9;
    }

    private String asString(int t) {
        StringBuilder s = new StringBuilder();
        for (byte b : texts[t]) {
            s.append((char) (b & 255));
        }
        return s.toString();
    }

    int fault(int t) {
        if (!in(t, 0, 3)) return -1;
        if (texts[t] == null) return find(1);
        return faultOf(asString(t), new ArrayList<>());
    }

    int land(int t) {
        if (!in(t, 0, 3)) return -1;
        if (texts[t] == null) return find(1);
        List<String> items = new ArrayList<>();
        if (faultOf(asString(t), items) != -9) return -4;
        mules = Integer.parseInt(items.get(2));
        suns = items.get(5);
        needs = "0" + items.get(8);
        now = new World();
        for (String item : items.subList(10, items.size())) {
            now.jars.add(new Jar(LETTERS.indexOf(item.charAt(0)), Integer.parseInt(item.substring(1))));
        }
        past = new ArrayDeque<>();
        burntOnes = new ArrayList<>();
        keptOnes = new World[3];
        return size();
    }

    private int jarTold(int k, int what) {
        Jar jar = now.jars.get(k);
        return List.of(jar.kind, jar.size, jar.light, jar.place, jar.opened ? 1 : 0).get(what);
    }

    int jar(int k, int what) {
        return in(k, 0, size() - 1) && in(what, 0, 4) ? tell(1, jarTold(k, what)) : -1;
    }

    int mark(int k, int kind) {
        if (!in(k, 0, size() - 1) || !in(kind, 1, 5)) return -1;
        Jar jar = now.jars.get(k);
        if (!List.of("0", "01", "02", "03", "024", "035").get(jar.kind).contains("" + kind)) return find(3);
        switch (kind) {
            case 1: return jar.leak() - up(jar.light, 1);
            case 2: return jar.leak() > 0 ? 0 : -9;
            case 3: return jar.light - jar.gives();
            case 4: return jar.gives();
            default: return jar.light % 3;
        }
    }

    private int placeTold(int p, int what) {
        int light = 0;
        for (Jar jar : now.jars) {
            light += jar.place == p ? jar.light : 0;
        }
        return List.of(need(p), now.hours[p], now.dark[p], light).get(what);
    }

    int place(int p, int what) {
        return in(p, 0, 4) && in(what, 0, 3) ? tell(1, placeTold(p, what)) : -1;
    }

    private boolean bright(int day) {
        return !suns.isEmpty() && suns.charAt(day % suns.length()) == '1';
    }

    int sun(int day) {
        return !in(day, 0, 999) ? -1 : bright(day) ? 1 : 0;
    }

    private void remember(int sort) {
        past.addLast(now.again(sort));
        if (past.size() > 60) {
            past.removeFirst();
        }
    }

    int fill(int k) {
        if (!in(k, 0, size() - 1)) return -1;
        Jar jar = now.jars.get(k);
        if (jar.place != 0 || !bright(now.day)) return -4;
        remember(0);
        int came = jar.size - jar.light;
        jar.light = jar.size;
        jar.opened = false;
        return came;
    }

    int carry(int k, int on) {
        if (!in(k, 0, size() - 1) || !in(on, 0, 1)) return -1;
        Jar jar = now.jars.get(k);
        int to = on == 1 ? jar.place + 1 : jar.place - 1;
        if (!in(to, 0, 4) || now.gone == mules) return -4;
        remember(1);
        now.gone++;
        jar.place = to;
        return to;
    }

    /** What leaves one JAR, what comes to another; null if nothing comes over. */
    private static int[] pouring(int light, int room) {
        for (int n = light; n > 0; n--) {
            int over = n - up(n, 1);
            if (over <= room) {
                return over == 0 ? null : new int[] {n, over};
            }
        }
        return null;
    }

    int pour(int k, int j) {
        if (!in(k, 0, size() - 1) || !in(j, 0, size() - 1) || k == j) return -1;
        Jar from = now.jars.get(k);
        Jar to = now.jars.get(j);
        int[] poured = pouring(from.light, to.size - to.light);
        if (from.place != to.place || poured == null) return -4;
        remember(2);
        from.light -= poured[0];
        to.light += poured[1];
        from.opened = true;
        to.opened = true;
        return tell(poured[1], poured[0] - poured[1]);
    }

    int spend(int k, int n) {
        if (!in(k, 0, size() - 1) || !in(n, 1, 20)) return -1;
        Jar jar = now.jars.get(k);
        if (jar.gives() < n) return -4;
        remember(3);
        jar.light -= n * (jar.kind == 3 ? 2 : jar.kind == 5 ? 3 : 1);
        jar.opened = true;
        now.hours[jar.place] += n;
        return jar.light;
    }

    int steal(int k, int n) {
        if (!in(k, 0, size() - 1) || !in(n, 1, 20)) return -1;
        Jar jar = now.jars.get(k);
        if (jar.kind == 4 || jar.light < n) return -4;
        remember(4);
        jar.light -= n;
        return jar.light;
    }

    int night() {
        if (now.day == 999) return -2;
        remember(5);
        int leaked = 0;
        for (Jar jar : now.jars) {
            int leak = jar.leak();
            leaked += leak;
            jar.light -= leak;
        }
        int dark = 0;
        for (int v = 1; v <= 4; v++) {
            if (now.hours[v] < need(v)) {
                dark++;
                now.dark[v]++;
            }
        }
        now.hours = new int[5];
        now.gone = 0;
        now.day++;
        return tell(leaked, dark);
    }

    int undo() {
        if (past.isEmpty()) return -4;
        now = past.removeLast();
        return now.sort;
    }

    int keep(int k) {
        if (!in(k, 0, 2)) return -1;
        if (size() == 0) return -4;
        keptOnes[k] = now.again(0);
        return now.day;
    }

    int on(int k) {
        if (!in(k, 0, 2)) return -1;
        if (keptOnes[k] == null) return find(1);
        now = keptOnes[k].again(0);
        past.clear();
        return now.day;
    }

    private Jar brought(int k, int p) {
        Jar jar = new Jar(now.jars.get(k).kind, now.jars.get(k).size);
        jar.light = jar.size;
        for (int i = 0; i < p; i++) {
            jar.light -= jar.leak();
        }
        return jar;
    }

    int brings(int k, int p) {
        if (!in(k, 0, size() - 1) || !in(p, 0, 4)) return -1;
        return tell(brought(k, p).light, brought(k, p).gives());
    }

    int best(int p) {
        if (!in(p, 0, 4)) return -1;
        if (size() == 0) return -4;
        int best = size() - 1;
        for (int k = size() - 1; k >= 0; k--) {
            if (brought(k, p).gives() >= brought(best, p).gives()) {
                best = k;
            }
        }
        return tell(best, brought(best, p).gives());
    }

    int loads() {
        if (size() == 0) return -4;
        int[][] gives = new int[size()][5];
        for (int k = 0; k < size(); k++) {
            for (int p = 1; p <= 4; p++) {
                gives[k][p] = brought(k, p).gives();
            }
        }
        int ways = (int) Math.pow(5, size());
        int[] best = null;
        for (int way = 0; way < ways; way++) {
            int[] hours = new int[5];
            int used = 0;
            int rest = way;
            for (int k = size() - 1; k >= 0; k--) {
                int v = rest % 5;
                rest /= 5;
                hours[v] += gives[k][v];
                used += v > 0 ? 1 : 0;
            }
            int lit = 0;
            for (int v = 1; v <= 4; v++) {
                lit += need(v) > 0 && hours[v] >= need(v) ? 1 : 0;
            }
            if (best == null || lit > best[0] || lit == best[0] && used < best[1]) {
                best = new int[] {lit, used, way};
            }
        }
        return tell(best[0], best[2]);
    }

    int needs(int v) {
        if (!in(v, 1, 4)) return -1;
        for (int jars = 0; jars <= size(); jars++) {
            for (int set = 0; set < 1 << size(); set++) {
                int sum = 0;
                for (int k = 0; k < size(); k++) {
                    sum += (set & 1 << k) != 0 ? brought(k, v).gives() : 0;
                }
                if (Integer.bitCount(set) == jars && sum >= need(v)) return tell(jars, set);
            }
        }
        return -9;
    }

    int store(int h, int d) {
        if (!in(h, 1, 9) || !in(d, 1, 20)) return -1;
        for (int least = 0;; least++) {
            int left = least;
            for (int day = 0; day < d && left >= 0; day++) {
                left -= (day > 0 ? up(left, 1) : 0) + h;
            }
            if (left >= 0) return tell(least, left);
        }
    }

    private List<Integer> beside(int k) {
        List<Integer> there = new ArrayList<>();
        for (int j = 0; j < size(); j++) {
            if (now.jars.get(j).place == now.jars.get(k).place) {
                there.add(j);
            }
        }
        return there;
    }

    private List<Integer> lights() {
        List<Integer> lights = new ArrayList<>();
        for (Jar jar : now.jars) {
            lights.add(jar.light);
        }
        return lights;
    }

    /** All that one pouring makes, by 6 times the JAR and that into which. */
    private Map<Integer, List<Integer>> poured(List<Integer> lights, List<Integer> there) {
        Map<Integer, List<Integer>> all = new java.util.TreeMap<>();
        for (int a : there) {
            for (int b : there) {
                int[] over = a == b ? null : pouring(lights.get(a), now.jars.get(b).size - lights.get(b));
                if (over != null) {
                    List<Integer> then = new ArrayList<>(lights);
                    then.set(a, lights.get(a) - over[0]);
                    then.set(b, lights.get(b) + over[1]);
                    all.put(6 * a + b, then);
                }
            }
        }
        return all;
    }

    private static boolean isAhead(List<Integer> row, List<Integer> other) {
        for (int i = 0; i < row.size(); i++) {
            int sign = Integer.compare(row.get(i), other.get(i));
            if (sign != 0) return sign < 0;
        }
        return false;
    }

    /** Level by level the first row of pourings to each state; null if none comes to n. */
    private List<Integer> firstRow(int k, int n) {
        Map<List<Integer>, List<Integer>> level = new HashMap<>();
        java.util.Set<List<Integer>> known = new java.util.HashSet<>();
        level.put(lights(), new ArrayList<>());
        while (!level.isEmpty()) {
            List<Integer> first = null;
            for (Map.Entry<List<Integer>, List<Integer>> entry : level.entrySet()) {
                if (entry.getKey().get(k) == n && (first == null || isAhead(entry.getValue(), first))) {
                    first = entry.getValue();
                }
            }
            if (first != null) return first;
            known.addAll(level.keySet());
            Map<List<Integer>, List<Integer>> next = new HashMap<>();
            for (Map.Entry<List<Integer>, List<Integer>> entry : level.entrySet()) {
                for (Map.Entry<Integer, List<Integer>> move : poured(entry.getKey(), beside(k)).entrySet()) {
                    List<Integer> row = new ArrayList<>(entry.getValue());
                    row.add(move.getKey());
                    List<Integer> old = next.get(move.getValue());
                    if (!known.contains(move.getValue()) && (old == null || isAhead(row, old))) {
                        next.put(move.getValue(), row);
                    }
                }
            }
            level = next;
        }
        return null;
    }

    private int refusal(int k, int n) {
        if (!in(k, 0, size() - 1) || !in(n, 0, 20)) return -1;
        return beside(k).size() > 3 ? -6 : 0;
    }

    int pours(int k, int n) {
        if (refusal(k, n) != 0) return refusal(k, n);
        List<Integer> row = firstRow(k, n);
        if (row == null) return -9;
        if (row.size() > 60) return -6;
        List<Integer> lights = lights();
        int spilt = 0;
        for (int move : row) {
            int[] over = pouring(lights.get(move / 6), now.jars.get(move % 6).size - lights.get(move % 6));
            spilt += over[0] - over[1];
            lights = poured(lights, beside(k)).get(move);
        }
        return tell(row.size(), spilt);
    }

    int way(int k, int n, int r) {
        if (!in(r, 0, 5)) return -1;
        if (refusal(k, n) != 0) return refusal(k, n);
        List<Integer> row = firstRow(k, n);
        if (row == null) return -9;
        if (row.size() > 60) return -6;
        rows[r] = row.stream().mapToInt(Integer::intValue).toArray();
        return row.size();
    }

    /** The least that is spilt on the way to each state. */
    private Map<List<Integer>, Integer> leastLosses(int k) {
        Map<List<Integer>, Integer> least = new HashMap<>();
        PriorityQueue<Map.Entry<List<Integer>, Integer>> open =
            new PriorityQueue<>((a, b) -> Integer.compare(a.getValue(), b.getValue()));
        open.add(Map.entry(lights(), 0));
        while (!open.isEmpty()) {
            Map.Entry<List<Integer>, Integer> next = open.remove();
            if (least.putIfAbsent(next.getKey(), next.getValue()) == null) {
                for (Map.Entry<Integer, List<Integer>> move : poured(next.getKey(), beside(k)).entrySet()) {
                    int a = move.getKey() / 6;
                    int b = move.getKey() % 6;
                    int out = next.getKey().get(a) - move.getValue().get(a);
                    int over = move.getValue().get(b) - next.getKey().get(b);
                    open.add(Map.entry(move.getValue(), next.getValue() + out - over));
                }
            }
        }
        return least;
    }

    int loss(int k, int n) {
        if (refusal(k, n) != 0) return refusal(k, n);
        int least = Integer.MAX_VALUE;
        for (Map.Entry<List<Integer>, Integer> entry : leastLosses(k).entrySet()) {
            if (entry.getKey().get(k) == n) {
                least = Math.min(least, entry.getValue());
            }
        }
        return least == Integer.MAX_VALUE ? -9 : least;
    }

    int most(int k) {
        if (refusal(k, 0) != 0) return refusal(k, 0);
        Map<List<Integer>, Integer> all = leastLosses(k);
        int most = 0;
        for (List<Integer> lights : all.keySet()) {
            most = Math.max(most, lights.get(k));
        }
        return tell(most, all.size());
    }

    int burnt(int set, int n) {
        if (set <= 0 || set >= 1 << size() || !in(n, 0, 120)) return -1;
        if (burntOnes.size() == 8) return -2;
        burntOnes.add(new int[] {set, n});
        return burntOnes.size() - 1;
    }

    int forget(int n) {
        if (!in(n, 0, burntOnes.size())) return -1;
        int gone = burntOnes.size() - n;
        burntOnes = new ArrayList<>(burntOnes.subList(0, n));
        return gone;
    }

    private int burns(int set, int dawn) {
        int sum = 0;
        for (int k = 0; k < size(); k++) {
            int own = now.jars.get(k).size;
            sum += (set & 1 << k) == 0 ? 0 : (dawn & 1 << k) == 0 ? own : own / 2;
        }
        return sum;
    }

    private List<Integer> possible() {
        List<Integer> all = new ArrayList<>();
        for (int dawn = 0; dawn < 1 << size(); dawn++) {
            boolean can = true;
            for (int[] one : burntOnes) {
                can &= burns(one[0], dawn) == one[1];
            }
            if (can) {
                all.add(dawn);
            }
        }
        return all;
    }

    int mixed() {
        if (size() == 0) return -4;
        List<Integer> all = possible();
        return all.isEmpty() ? -9 : tell(all.size(), all.get(0));
    }

    int sure() {
        if (size() == 0) return -4;
        List<Integer> all = possible();
        if (all.isEmpty()) return find(4);
        int with = 0;
        int without = 0;
        for (int k = 0; k < size(); k++) {
            int bit = 1 << k;
            with |= all.stream().allMatch(dawn -> (dawn & bit) != 0) ? bit : 0;
            without |= all.stream().allMatch(dawn -> (dawn & bit) == 0) ? bit : 0;
        }
        return tell(with, without);
    }

    int test() {
        if (size() == 0) return -4;
        List<Integer> all = possible();
        if (all.isEmpty()) return find(4);
        int[] best = null;
        for (int jars = 1; jars <= size(); jars++) {
            for (int set = 1; set < 1 << size(); set++) {
                if (Integer.bitCount(set) == jars) {
                    Map<Integer, Integer> left = new HashMap<>();
                    for (int dawn : all) {
                        left.merge(burns(set, dawn), 1, Integer::sum);
                    }
                    int most = java.util.Collections.max(left.values());
                    if (best == null || most < best[1]) {
                        best = new int[] {set, most};
                    }
                }
            }
        }
        return tell(best[0], best[1]);
    }

    int theft(int r, int kind) {
        if (!in(r, 0, 5) || !in(kind, 0, 5)) return -1;
        if (rows[r] == null) return find(1);
        if (rows[r].length < 2) return find(5);
        for (int v : rows[r]) {
            if (!in(v, 0, 20)) return find(3);
        }
        for (int i = 1; i < rows[r].length; i++) {
            int less = rows[r][i - 1] - leakOf(kind, rows[r][i - 1], false) - rows[r][i];
            if (less > 0) return tell(i, less);
        }
        return -9;
    }

    int seats(int n, int r, int to) {
        if (!in(n, 0, 99) || !in(r, 0, 5) || !in(to, 0, 5)) return -1;
        if (rows[r] == null) return find(1);
        int[] seats = rows[r];
        if (!in(seats.length, 1, 6)) return find(5);
        for (int v : seats) {
            if (!in(v, 0, 99)) return find(3);
        }
        if (Arrays.stream(seats).max().getAsInt() == 0) return find(4);
        int[] parts = new int[seats.length];
        for (int part = 0; part < n; part++) {
            int next = 0;
            for (int i = 0; i < seats.length; i++) {
                // Two quotients that differ do so by a hundredth of a hundredth at least.
                double more = (double) seats[i] / (parts[i] + 1) - (double) seats[next] / (parts[next] + 1);
                if (more > 0.00001) {
                    next = i;
                }
            }
            parts[next]++;
        }
        rows[to] = parts;
        return Arrays.stream(parts).max().getAsInt();
    }

    int mirror(int v, int c) {
        if (!in(v, 1, 4) || !in(c, 1, 999)) return -1;
        if (need(v) == 0 || suns.indexOf('1') < 0) return -9;
        int given = 0;
        int days = 0;
        int brightDays = 0;
        while (given < c) {
            if (bright(days)) {
                brightDays++;
                given += need(v);
            }
            days++;
        }
        return tell(days, brightDays);
    }

    int lots(int n, int seed) {
        if (!in(n, 1, 40) || !in(seed, 1, 2147483646)) return -1;
        if (size() < 2) return -4;
        java.math.BigInteger lot = java.math.BigInteger.valueOf(seed);
        int done = 0;
        for (int i = 0; i < n; i++) {
            lot = lot.multiply(java.math.BigInteger.valueOf(48271)).mod(java.math.BigInteger.valueOf(2147483647));
            int it = lot.intValueExact();
            int k = it % size();
            int answer;
            switch (it / 64 % 5) {
                case 0: answer = fill(k); break;
                case 1: answer = carry(k, 1); break;
                case 2: answer = spend(k, 1); break;
                case 3: answer = pour(k, (k + 1) % size()); break;
                default: answer = night();
            }
            done += answer < 0 ? 0 : 1;
        }
        return done;
    }

    int asked() {
        return asked;
    }

    private long[] part() {
        long light = count(1);
        long whole = 0;
        for (Jar jar : now.jars) {
            whole += jar.size;
        }
        if (whole == 0) return new long[] {0, 1};
        long divisor = java.math.BigInteger.valueOf(light).gcd(java.math.BigInteger.valueOf(whole)).longValue();
        return new long[] {light / divisor, whole / divisor};
    }

    long upper() {
        return part()[0];
    }

    long lower() {
        return part()[1];
    }

    int count(int what) {
        switch (what) {
            case 0: return size();
            case 1: return now.jars.stream().mapToInt(jar -> jar.light).sum();
            case 2: return now.day;
            case 3: return mules - now.gone;
            case 4: return (int) now.jars.stream().filter(jar -> jar.kind == 2 || jar.kind == 4).count();
            case 5: return (int) now.jars.stream().filter(jar -> jar.kind == 3 || jar.kind == 5).count();
            case 6: return (int) Arrays.stream(rows).filter(row -> row != null).count();
            case 7: return (int) Arrays.stream(texts).filter(text -> text != null).count();
            case 8: return past.size();
            case 9: return burntOnes.size();
            default: return -1;
        }
    }

    int finding() {
        return finding;
    }

    int findings(int f) {
        return in(f, 1, 5) ? findings[f] : -1;
    }

    long digest() {
        List<Integer> all = new ArrayList<>();
        for (int what = 0; what < 10; what++) {
            all.add(count(what));
        }
        for (int k = 0; k < size(); k++) {
            for (int what = 0; what < 5; what++) {
                all.add(jarTold(k, what));
            }
        }
        for (int p = 0; p < 5; p++) {
            for (int what = 0; what < 4; what++) {
                all.add(placeTold(p, what));
            }
        }
        for (int[] one : burntOnes) {
            all.add(one[0]);
            all.add(one[1]);
        }
        for (World kept : keptOnes) {
            all.add(kept == null ? -1 : kept.day);
        }
        for (int[] row : rows) {
            all.add(row == null ? -1 : row.length);
            for (int v : row == null ? new int[0] : row) {
                all.add(v);
            }
        }
        for (byte[] text : texts) {
            all.add(text == null ? -1 : text.length);
            for (byte v : text == null ? new byte[0] : text) {
                all.add((int) v);
            }
        }
        long h = 17;
        for (int v : all) {
            h = h * 31 + v;
        }
        return h;
    }
}
