import java.io.IOException;
import java.lang.reflect.Constructor;
import java.lang.reflect.Field;
import java.lang.reflect.Method;
import java.lang.reflect.Modifier;
import java.nio.file.Files;
import java.nio.file.Path;
import java.util.Arrays;
import java.util.HashSet;
import java.util.List;
import java.util.Set;
import java.util.TreeSet;
import java.util.regex.Matcher;
import java.util.regex.Pattern;

/** The public face is the document's, no more and no less; what of LANGUAGE.md can be told from the outside holds. */
public final class FaceTest {
    private static final Check CHECK = new Check("FaceTest");
    private static final String FACE =
        "int row int int, int lay int int int, int at int int, int tear int, int copy int int int int int, int mean int, "
        + "int text int int, int put int int int, int fault int, int land int, int jar int int, int mark int int, "
        + "int place int int, int sun int, int fill int, int carry int int, int pour int int, int spend int int, "
        + "int steal int int, int night, int undo, int keep int, int on int, int brings int int, int best int, int loads, "
        + "int needs int, int store int int, int pours int int, int way int int int, int loss int int, int most int, "
        + "int burnt int int, int forget int, int mixed, int sure, int test, int theft int int, int seats int int int, "
        + "int mirror int int, int lots int int, int asked, long upper, long lower, int count int, int finding, "
        + "int findings int, long digest";

    public static void main(String[] args) throws IOException, ReflectiveOperationException {
        methods();
        constantsAndConstructor();
        namesOfPrivateMethods();
        classesInside();
        words();
        manyObjects();
        CHECK.end();
    }

    private static String told(Method method) {
        StringBuilder told = new StringBuilder(method.getReturnType().getName()).append(' ').append(method.getName());
        for (Class<?> type : method.getParameterTypes()) {
            told.append(' ').append(type.getName());
        }
        return told.toString();
    }

    private static void methods() {
        Set<String> due = new TreeSet<>(Arrays.asList(FACE.split(", ")));
        Set<String> there = new TreeSet<>();
        for (Method method : NoonJars.class.getDeclaredMethods()) {
            if (!Modifier.isPrivate(method.getModifiers())) {
                there.add(told(method));
            }
        }
        if (!due.equals(there)) {
            CHECK.fail("the face is " + there + ", due is " + due);
        }
        CHECK.due(1, "calls of the face", there.size(), 48);
    }

    private static void constantsAndConstructor() throws ReflectiveOperationException {
        String[] names = {"BAD", "FULL", "FINDING", "STATE", "SPENT", "NONE"};
        int[] values = {-1, -2, -3, -4, -6, -9};
        int open = 0;
        for (Field field : NoonJars.class.getDeclaredFields()) {
            open += Modifier.isPrivate(field.getModifiers()) ? 0 : 1;
        }
        CHECK.due(1, "constants", open, names.length);
        for (int i = 0; i < names.length; i++) {
            CHECK.due(1, names[i], NoonJars.class.getField(names[i]).getInt(null), values[i]);
        }
        Constructor<?>[] constructors = NoonJars.class.getDeclaredConstructors();
        CHECK.due(1, "constructors", constructors.length, 1);
        CHECK.due(1, "its parameters", constructors[0].getParameterCount(), 0);
        CHECK.due(1, "public and final", NoonJars.class.getModifiers(), Modifier.PUBLIC | Modifier.FINAL);
    }

    private static void namesOfPrivateMethods() {
        Set<String> open = new HashSet<>();
        for (String call : FACE.split(", ")) {
            open.add(call.split(" ")[1]);
        }
        for (Class<?> inside : allClasses()) {
            for (Method method : inside.getDeclaredMethods()) {
                boolean faced = inside == NoonJars.class && Modifier.isPublic(method.getModifiers());
                if (!faced && open.contains(method.getName())) {
                    CHECK.fail(method + " bears the name of a public one");
                }
                if (method.getParameterCount() > 7) {
                    CHECK.fail(method + " takes more than seven parameters");
                }
            }
        }
    }

    private static List<Class<?>> allClasses() {
        List<Class<?>> all = new java.util.ArrayList<>(List.of(NoonJars.class));
        all.addAll(List.of(NoonJars.class.getDeclaredClasses()));
        return all;
    }

    private static void classesInside() {
        if (allClasses().size() > 12) {
            CHECK.fail(allClasses().size() + " classes");
        }
        for (Class<?> inside : allClasses()) {
            int fields = 0;
            for (Field field : inside.getDeclaredFields()) {
                boolean constant = Modifier.isStatic(field.getModifiers());
                fields += constant ? 0 : 1;
                if (constant && !Modifier.isFinal(field.getModifiers())) {
                    CHECK.fail(field + " is static and not final");
                }
            }
            if (fields > 20) {
                CHECK.fail(inside + " has " + fields + " fields");
            }
            if (inside != NoonJars.class && !Modifier.isStatic(inside.getModifiers())) {
                CHECK.fail(inside + " is not static");
            }
        }
    }

    /** Words that LANGUAGE.md has no place for, outside comments. */
    private static void words() throws IOException {
        Path file = Path.of("src/main/java/NoonJars.java");
        String source = Files.readString(file).replaceAll("(?s)/\\*.*?\\*/", "").replaceAll("//[^\n]*", "");
        Pattern ruledOut = Pattern.compile("\\b(throws?|try|catch|finally|synchronized|assert|package|protected|volatile"
            + "|var|yield|System\\.(?!arraycopy)\\w+|\\w+Exact|Random|Thread|hashCode|toString)\\b|->|::");
        Matcher matcher = ruledOut.matcher(source);
        while (matcher.find()) {
            CHECK.fail("LANGUAGE.md has no place for: " + matcher.group());
        }
        Matcher imports = Pattern.compile("import ([^;]*);").matcher(source);
        while (imports.find()) {
            if (!List.of("java.util.Arrays", "java.util.ArrayList", "java.util.List").contains(imports.group(1))) {
                CHECK.fail("imports " + imports.group(1));
            }
        }
        CHECK.due(1, "tells of signs above 127", source.chars().filter(c -> c > 127).count(), 0);
    }

    /** Two objects know nothing of one another. */
    private static void manyObjects() {
        NoonJars x = Check.land("y6s1v0000j20j13j7");
        x.fill(0);
        long digest = x.digest();
        NoonJars y = Check.land("y1s0v9999c3");
        y.row(0, 5);
        y.night();
        y.tear(4);
        CHECK.due(1, "digest() of the other", x.digest(), digest);
        CHECK.due(1, "finding() of the other", x.finding(), 0);
        CHECK.due(1, "asked() of the other", x.asked(), 0);
    }
}
