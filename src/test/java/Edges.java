import java.lang.reflect.InvocationTargetException;
import java.lang.reflect.Method;
import java.util.Arrays;
import java.util.Comparator;
import java.util.function.IntSupplier;

/**
 * Tests of boundary cases, one a sentence of the document: each is a method of its own, promiseNN.. by the promise
 * that has the sentence, promise00.. for one of 'Terms', and makes objects of its own.
 */
abstract class Edges {
    static final int BAD = NoonJars.BAD, FULL = NoonJars.FULL, STATE = NoonJars.STATE, SPENT = NoonJars.SPENT;
    static final int NONE = NoonJars.NONE;
    static final int NOTHING = 1, BEYOND = 2, UNLIKE = 3, NOUGHT = 4, SIZE = 5;
    static final int LEAST = Integer.MIN_VALUE, GREATEST = Integer.MAX_VALUE;

    private static Check check;
    private static int promise;

    /** Runs all tests of a class, in the order of their names; the exit code is 1 if one of them found a wrong answer. */
    static void runAll(Class<?> tests) throws IllegalAccessException {
        check = new Check(tests.getSimpleName());
        Method[] methods = tests.getDeclaredMethods();
        Arrays.sort(methods, Comparator.comparing(Method::getName));
        int run = 0;
        for (Method method : methods) {
            if (method.getName().matches("promise[0-9]{2}\\w+")) {
                run++;
                runOne(method);
            }
        }
        System.out.println(run + " tests");
        if (run == 0) {
            check.fail("no test at all");
        }
        check.end();
    }

    private static void runOne(Method method) throws IllegalAccessException {
        promise = Integer.parseInt(method.getName().substring(7, 9));
        int before = check.wrongOnes();
        method.setAccessible(true);
        try {
            method.invoke(null);
        } catch (InvocationTargetException thrown) {
            check.fail(method.getName() + " threw " + thrown.getCause());
        }
        if (check.wrongOnes() != before) {
            System.out.println("FAILED: " + method.getName());
        }
    }

    static void due(String call, long got, long want) {
        check.due(promise, call, got, want);
    }

    static void tells(NoonJars x, String call, int got, int want, int told) {
        check.tells(promise, x, call, got, want, told);
    }

    static void refused(NoonJars x, String call, int want, IntSupplier calling) {
        check.refused(promise, x, call, want, calling);
    }

    static void finds(NoonJars x, String call, int f, IntSupplier calling) {
        check.finds(promise, x, call, f, calling);
    }

    static void dueRow(NoonJars x, int r, int... want) {
        for (int i = 0; i < want.length; i++) {
            due("at(" + r + ", " + i + ")", Check.placeOf(x, r, i), want[i]);
        }
        due("at(" + r + ", " + want.length + "), behind its end", x.at(r, want.length), NoonJars.FINDING);
    }

    /** Each of some numbers is BAD where a call takes just these: the ones below, above, and the farthest. */
    static void badBeyond(NoonJars x, String call, int least, int greatest, Calling calling) {
        for (int v : new int[] {least - 1, greatest + 1, LEAST, GREATEST}) {
            refused(x, call + " with " + v, BAD, () -> calling.call(v));
        }
    }

    /** A call by one of its numbers. */
    interface Calling {
        int call(int v);
    }

    /** A LAND with a JAR of a SIZE, in which it holds so much, filled last and not OPENED since. */
    static NoonJars holding(char letter, int size, int light) {
        NoonJars x = Check.land("y6s1v0000" + letter + size);
        if (light > 0) {
            x.fill(0);
        }
        if (light > 0 && light < size) {
            x.steal(0, size - light);
        }
        return x;
    }

    static void nights(NoonJars x, int n) {
        for (int i = 0; i < n; i++) {
            x.night();
        }
    }
}
