import java.util.TreeSet;
import java.util.function.IntSupplier;

/** Counts and prints the answers that are not the ones that are due. */
final class Check {
    private final String name;
    private final TreeSet<Integer> promises = new TreeSet<>();
    private int checks;
    private int wrong;

    Check(String name) {
        this.name = name;
    }

    /** An answer of a call, by the promise that says what it must be. */
    void due(int promise, String call, long got, long want) {
        promises.add(promise);
        checks++;
        if (got != want) {
            wrong++;
            System.out.println("promise " + promise + ": " + call + " answered " + got + ", due is " + want);
        }
    }

    /** A call that also tells something by asked(). */
    void tells(int promise, NoonJars x, String call, int got, int want, int told) {
        due(promise, call, got, want);
        due(promise, "asked() behind " + call, x.asked(), told);
    }

    /** A call that is refused (or NONE): nothing changes. */
    void refused(int promise, NoonJars x, String call, int want, IntSupplier calling) {
        long digest = x.digest();
        int asked = x.asked();
        int finding = x.finding();
        int[] before = findingsOf(x);
        due(promise, call, calling.getAsInt(), want);
        due(promise, "digest() behind " + call, x.digest(), digest);
        due(promise, "asked() behind " + call, x.asked(), asked);
        due(promise, "finding() behind " + call, x.finding(), finding);
        dueFindings(promise, x, call, before);
    }

    private static int[] findingsOf(NoonJars x) {
        int[] all = new int[6];
        for (int f = 1; f <= 5; f++) {
            all[f] = x.findings(f);
        }
        return all;
    }

    private void dueFindings(int promise, NoonJars x, String call, int[] want) {
        for (int f = 1; f <= 5; f++) {
            due(promise, "findings(" + f + ") behind " + call, x.findings(f), want[f]);
        }
    }

    /** A call that is refused with a FINDING: nothing else changes. */
    void finds(int promise, NoonJars x, String call, int f, IntSupplier calling) {
        long digest = x.digest();
        int asked = x.asked();
        int[] before = findingsOf(x);
        before[f]++;
        due(promise, call, calling.getAsInt(), NoonJars.FINDING);
        due(promise, "finding() behind " + call, x.finding(), f);
        dueFindings(promise, x, call, before);
        due(promise, "digest() behind " + call, x.digest(), digest);
        due(promise, "asked() behind " + call, x.asked(), asked);
    }

    int wrongOnes() {
        return wrong;
    }

    void fail(String what) {
        wrong++;
        System.out.println(what);
    }

    /** Prints what was found; the exit code is 1 if an answer was wrong. */
    void end() {
        System.out.println(name + ": promises " + promises + ", " + checks + " checks, " + wrong + " wrong");
        if (wrong != 0) {
            System.exit(1);
        }
    }

    /** Writes a TEXT. */
    static void write(NoonJars x, int t, String text) {
        x.text(t, text.length());
        for (int i = 0; i < text.length(); i++) {
            if (text.charAt(i) != ' ') {
                x.put(t, i, text.charAt(i));
            }
        }
    }

    /** A new object with a LAND by a TEXT. */
    static NoonJars land(String text) {
        NoonJars x = new NoonJars();
        write(x, 0, text);
        int jars = x.land(0);
        if (jars < 0) {
            throw new IllegalStateException("no land: " + text + ": " + jars);
        }
        return x;
    }

    /** Writes a ROW. */
    static void fillRow(NoonJars x, int r, int... values) {
        x.row(r, values.length);
        for (int i = 0; i < values.length; i++) {
            x.lay(r, i, values[i]);
        }
    }

    /** What a place of a ROW is. */
    static int placeOf(NoonJars x, int r, int i) {
        return x.at(r, i) == 1 ? x.asked() : Integer.MIN_VALUE;
    }

    /** What a JAR tells. */
    static int ofJar(NoonJars x, int k, int what) {
        return x.jar(k, what) == 1 ? x.asked() : Integer.MIN_VALUE;
    }

    /** What a PLACE tells. */
    static int ofPlace(NoonJars x, int p, int what) {
        return x.place(p, what) == 1 ? x.asked() : Integer.MIN_VALUE;
    }
}
