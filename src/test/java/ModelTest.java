import java.lang.reflect.Method;
import java.util.ArrayList;
import java.util.Arrays;
import java.util.List;
import java.util.Random;

/** Runs of calls, ordinary and wrong ones, on NoonJars and on the model: all answers must be the same. */
public final class ModelTest {
    private static final int RUNS = 1500, CALLS = 500;
    private static final String LETTERS = "jcedlu";
    private static final String DEEDS = "fill carry pour spend steal night ";
    private static final String[] MIXES = {
        // what a run is mostly about
        DEEDS + DEEDS + DEEDS + "undo keep on jar place count asked digest lots land text",
        DEEDS + "pours way loss most at asked fill pour carry pours way loss most asked",
        "brings best loads needs store mirror asked land land sun lots",
        "burnt burnt burnt forget mixed asked sure asked test asked land digest",
        "row lay lay lay at tear copy mean theft seats seats asked at digest finding findings",
        "text put fault fault land count digest fault",
        DEEDS + "mark mark jar upper lower count place fill fill night undo undo on keep findings",
        "lots lots lots night undo asked digest count on keep place"};

    private static final List<String> CALLED = List.of((
        "row lay at tear copy mean text put fault land jar mark place sun fill carry pour spend steal night undo keep on "
        + "brings best loads needs store pours way loss most burnt forget mixed sure test theft seats mirror lots "
        + "asked upper lower count finding findings digest").split(" "));

    private final Check check = new Check("ModelTest");
    private final Method[] face;
    private final Random random = new Random(20261118);
    private NoonJars jars;
    private Model model;
    private List<String> told;
    private boolean same;
    private int calls;

    private ModelTest() {
        face = NoonJars.class.getDeclaredMethods();
    }

    public static void main(String[] args) throws ReflectiveOperationException {
        ModelTest test = new ModelTest();
        for (int run = 0; run < RUNS; run++) {
            test.run(run);
        }
        test.check.end();
    }

    private void run(int run) throws ReflectiveOperationException {
        jars = new NoonJars();
        model = new Model();
        told = new ArrayList<>();
        same = true;
        calls = 0;
        boolean without = random.nextInt(12) == 0;
        if (!without) {
            write(0, goodText());
            call("land", 0);
        }
        String[] names = MIXES[run % MIXES.length].split(" ");
        while (same && calls < CALLS - 70) {
            step(random.nextInt(10) == 0 ? anyName() : names[random.nextInt(names.length)]);
        }
        call("digest");
        call("asked");
        for (int f = 0; f <= 6; f++) {
            call("findings", f);
        }
    }

    private String anyName() {
        String[] names = MIXES[random.nextInt(MIXES.length)].split(" ");
        return names[random.nextInt(names.length)];
    }

    private void step(String name) throws ReflectiveOperationException {
        if (name.equals("land") || name.equals("fault")) {
            if (random.nextInt(3) > 0) {
                write(1, random.nextInt(3) > 0 ? goodText() : brokenText(goodText()));
            }
            call(name, random.nextInt(3) > 0 ? 1 : between(-1, 4));
        } else if (name.equals("theft") && random.nextBoolean()) {
            writePosts(between(0, 5), between(0, 5));
        } else if (name.equals("seats") && random.nextBoolean()) {
            writeSeats(between(0, 5));
        } else if (name.equals("burnt") && random.nextInt(3) > 0) {
            burnTruly();
        } else {
            call(name, argumentsOf(name));
        }
        if (random.nextInt(3) == 0) {
            call("asked");
        }
        if (random.nextInt(6) == 0) {
            call("digest");
        }
    }

    private int between(int least, int greatest) {
        return least + random.nextInt(greatest - least + 1);
    }

    /** Mostly within the bounds, at times just beyond them, seldom far away. */
    private int about(int least, int greatest) {
        int sort = random.nextInt(60);
        if (sort == 0) {
            return random.nextInt();
        }
        return sort < 5 ? between(least - 1, greatest + 1) : between(least, greatest);
    }

    private int aJar() {
        return about(0, Math.max(0, model.count(0) - 1));
    }

    private int[] argumentsOf(String name) {
        switch (name) {
            case "row": return new int[] {about(0, 5), random.nextInt(3) == 0 ? about(0, 60) : about(0, 7)};
            case "lay": return new int[] {about(0, 5), about(0, 7), aValue()};
            case "at": return new int[] {about(0, 5), about(0, 7)};
            case "tear": case "mean": return new int[] {about(0, 5)};
            case "copy": return new int[] {about(0, 5), about(0, 5), about(0, 5), about(0, 5), about(0, 4)};
            case "text": return new int[] {about(1, 3), random.nextInt(3) == 0 ? about(0, 60) : about(0, 7)};
            case "put": return new int[] {about(0, 3), about(0, 7), random.nextInt(4) == 0 ? random.nextInt() : between(-130, 130)};
            case "jar": return new int[] {aJar(), about(0, 4)};
            case "mark": return new int[] {aJar(), about(1, 5)};
            case "place": return new int[] {about(0, 4), about(0, 3)};
            case "sun": return new int[] {random.nextInt(4) == 0 ? about(990, 999) : about(0, 12)};
            case "fill": return new int[] {aJar()};
            case "carry": return new int[] {aJar(), random.nextInt(3) > 0 ? 1 : about(0, 1)};
            case "pour": return new int[] {aJar(), aJar()};
            case "spend": case "steal": return new int[] {aJar(), random.nextInt(3) == 0 ? about(1, 20) : between(1, 4)};
            case "keep": case "on": return new int[] {about(0, 2)};
            case "brings": return new int[] {aJar(), about(0, 4)};
            case "best": return new int[] {about(0, 4)};
            case "needs": return new int[] {about(1, 4)};
            case "store": return new int[] {about(1, 9), about(1, 20)};
            case "pours": case "loss": return new int[] {aJar(), about(0, 20)};
            case "way": return new int[] {aJar(), about(0, 20), about(0, 5)};
            case "most": return new int[] {aJar()};
            case "burnt": return new int[] {about(1, (1 << model.count(0)) - (model.count(0) > 0 ? 1 : 0)), about(0, 120)};
            case "forget": return new int[] {about(0, model.count(9))};
            case "theft": return new int[] {about(0, 5), about(0, 5)};
            case "seats": return new int[] {about(0, 99), about(0, 5), about(0, 5)};
            case "mirror": return new int[] {about(1, 4), about(1, 999)};
            case "lots": return new int[] {about(1, 40), random.nextInt(9) == 0 ? random.nextInt() : between(1, 2147483646)};
            case "count": return new int[] {about(0, 9)};
            case "findings": return new int[] {about(1, 5)};
            default: return new int[0];
        }
    }

    private int aValue() {
        int sort = random.nextInt(8);
        return sort == 0 ? random.nextInt() : sort == 1 ? between(-1, 101) : between(0, 20);
    }

    private String blanks() {
        return " ".repeat(random.nextInt(4) == 0 ? between(0, 2) : 0);
    }

    private String goodText() {
        StringBuilder text = new StringBuilder(blanks()).append('y').append(between(1, 6)).append(blanks()).append('s');
        int suns = between(1, 8);
        for (int i = 0; i < suns; i++) {
            text.append(random.nextInt(4) == 0 ? '0' : '1');
        }
        text.append(blanks()).append('v');
        for (int v = 1; v <= 4; v++) {
            text.append(random.nextInt(4) == 0 ? 0 : between(0, 9));
        }
        int count = random.nextInt(10) == 0 ? between(0, 1) : between(2, 6);
        for (int k = 0; k < count; k++) {
            text.append(blanks()).append(LETTERS.charAt(random.nextInt(6)));
            int size = random.nextInt(4) == 0 ? 20 : between(1, 20);
            text.append(size < 10 && random.nextInt(9) == 0 ? "0" : "").append(size);
        }
        text.append(blanks());
        return text.length() > 60 ? text.substring(0, 60) : text.toString();
    }

    private String brokenText(String good) {
        StringBuilder text = new StringBuilder(good);
        int changes = between(1, 2);
        for (int i = 0; i < changes && text.length() > 0; i++) {
            int place = random.nextInt(text.length());
            switch (random.nextInt(4)) {
                case 0: text.deleteCharAt(place); break;
                case 1: text.setLength(place); break;
                case 2: text.insert(place, "ysvjcedlu 0123456789x".charAt(random.nextInt(21))); break;
                default: text.setCharAt(place, "ysvjcedlu 0123456789x".charAt(random.nextInt(21)));
            }
        }
        return text.length() > 60 ? text.substring(0, 60) : text.toString();
    }

    private void write(int t, String text) throws ReflectiveOperationException {
        call("text", t, text.length());
        for (int i = 0; i < text.length(); i++) {
            if (text.charAt(i) != ' ') {
                call("put", t, i, text.charAt(i));
            }
        }
    }

    /** What a JAR held by its leaks, with a theft at times. */
    private void writePosts(int r, int kind) throws ReflectiveOperationException {
        int posts = between(1, 6);
        call("row", r, posts);
        int held = between(0, 20);
        for (int i = 0; i < posts; i++) {
            call("lay", r, i, random.nextInt(40) == 0 ? about(0, 20) : held);
            int tenths = kind == 1 ? 2 : kind == 2 || kind == 4 ? 0 : 1;
            held -= (held * tenths + 9) / 10;
            held = random.nextInt(5) == 0 ? Math.max(0, held - between(1, 3)) : held;
        }
        call("theft", r, kind);
    }

    private void writeSeats(int r) throws ReflectiveOperationException {
        int seats = random.nextInt(9) == 0 ? between(0, 7) : between(1, 6);
        call("row", r, seats);
        boolean small = random.nextBoolean();
        for (int i = 0; i < seats; i++) {
            call("lay", r, i, random.nextInt(40) == 0 ? between(-2, 101) : between(0, small ? 4 : 99));
        }
        call("seats", about(0, 99), r, about(0, 5));
    }

    /** As if JARS 1 and 3 had dawn in them, so that some sets are left for long. */
    private void burnTruly() throws ReflectiveOperationException {
        if (model.count(0) == 0) {
            call("burnt", 1, 1);
            return;
        }
        int set = between(1, (1 << model.count(0)) - 1);
        int hours = 0;
        for (int k = 0; k < model.count(0); k++) {
            if ((set >> k & 1) == 1) {
                call("jar", k, 1);
                hours += k % 2 == 1 ? model.asked() / 2 : model.asked();
            }
        }
        call("burnt", set, hours + (random.nextInt(30) == 0 ? 1 : 0));
    }

    private void call(String name, int... arguments) throws ReflectiveOperationException {
        if (!same) {
            return;
        }
        Object[] values = Arrays.stream(arguments).boxed().toArray();
        Method method = methodOf(name);
        Method own = Model.class.getDeclaredMethod(name, method.getParameterTypes());
        long got = ((Number) method.invoke(jars, values)).longValue();
        long want = ((Number) own.invoke(model, values)).longValue();
        calls++;
        told.add(name + Arrays.toString(arguments) + " " + want);
        check.due(promiseOf(name), name + Arrays.toString(arguments), got, want);
        if (got != want) {
            same = false;
            System.out.println("  by the run: " + told.subList(Math.max(0, told.size() - 60), told.size()));
        }
    }

    private Method methodOf(String name) throws NoSuchMethodException {
        for (Method method : face) {
            if (method.getName().equals(name)) {
                return method;
            }
        }
        throw new NoSuchMethodException(name);
    }

    /** The calls in the document's order are promises 2 to 49. */
    private static int promiseOf(String name) {
        return CALLED.indexOf(name) + 2;
    }
}
