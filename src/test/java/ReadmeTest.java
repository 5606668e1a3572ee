import java.io.IOException;
import java.lang.reflect.Method;
import java.nio.file.Files;
import java.nio.file.Path;
import java.util.Arrays;
import java.util.regex.Matcher;
import java.util.regex.Pattern;

/** The run of calls that README.md tells answers what README.md says. */
public final class ReadmeTest {
    private static final Check CHECK = new Check("ReadmeTest");
    private static final Pattern LAND = Pattern.compile("String text = \"([^\"]*)\";");
    private static final Pattern CALL = Pattern.compile("(?m)^x\\.(\\w+)\\(([-\\d, ]*)\\);\\s*// (-?\\d+)(: .*)?$");

    public static void main(String[] args) throws IOException, ReflectiveOperationException {
        String readme = Files.readString(Path.of("README.md"));
        Matcher land = LAND.matcher(readme);
        if (!land.find()) {
            CHECK.fail("README.md has no land");
            CHECK.end();
        }
        NoonJars x = new NoonJars();
        Check.write(x, 0, land.group(1));
        Matcher call = CALL.matcher(readme);
        int calls = 0;
        while (call.find()) {
            calls++;
            String told = "README.md: " + call.group(1) + "(" + call.group(2) + ")";
            CHECK.due(1, told, answer(x, call.group(1), call.group(2)), Long.parseLong(call.group(3)));
        }
        CHECK.due(1, "calls with an answer, of those that README.md has", calls, callsWithComment(readme));
        CHECK.end();
    }

    /** A line that looks otherwise than CALL wants it must not be passed over. */
    private static long callsWithComment(String readme) {
        return readme.lines().filter(line -> line.startsWith("x.") && line.contains("//")).count();
    }

    private static long answer(NoonJars x, String name, String told) throws ReflectiveOperationException {
        String[] words = told.isBlank() ? new String[0] : told.split(",");
        Object[] values = new Object[words.length];
        Class<?>[] types = new Class<?>[words.length];
        Arrays.fill(types, int.class);
        for (int i = 0; i < words.length; i++) {
            values[i] = Integer.valueOf(words[i].trim());
        }
        Method method = NoonJars.class.getMethod(name, types);
        return ((Number) method.invoke(x, values)).longValue();
    }
}
