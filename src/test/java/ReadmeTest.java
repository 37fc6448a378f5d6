import java.io.File;
import java.io.IOException;
import java.lang.reflect.Method;
import java.lang.reflect.Modifier;
import java.nio.file.Files;
import java.nio.file.Path;
import java.util.regex.Matcher;
import java.util.regex.Pattern;

/** What README.md shows is true: its example is run, and each method and each test has its name there. */
public final class ReadmeTest {
    private static final Check check = new Check();
    private static final Pattern CALL = Pattern.compile("(?m)^x\\.(\\w+)\\(([^)]*)\\); *// (true|false|-?\\d+)\\b(.*)$");
    private static final Pattern QUOTED = Pattern.compile("\"([^\"]*)\"");

    public static void main(String[] args) throws IOException, ReflectiveOperationException {
        String page = Files.readString(Path.of("README.md"));
        runExample(page);
        for (Method method : DrillContest.class.getDeclaredMethods()) {
            if (Modifier.isPublic(method.getModifiers())) {
                named(page, method.getName());
            }
        }
        for (File file : new File("src/test/java").listFiles()) {
            if (file.getName().endsWith("Test.java")) {
                named(page, file.getName().replace(".java", ""));
            }
        }
        check.close("ReadmeTest");
    }

    private static void named(String page, String name) {
        check.same("README.md names " + name, page.contains("`" + name + "`"), true);
    }

    private static void runExample(String page) throws ReflectiveOperationException {
        DrillContest x = new DrillContest();
        Matcher line = CALL.matcher(page);
        int calls = 0;
        while (line.find()) {
            check.same(line.group(), String.valueOf(answer(x, line.group(1), line.group(2))), line.group(3));
            Matcher text = QUOTED.matcher(line.group(4));
            if (text.find()) {
                check.same("text of " + line.group(), Check.formatted(x), text.group(1));
            }
            calls++;
        }
        // Every line of the example that calls shows its answer, so none is passed over.
        check.same("calls of the example", calls, page.split("\nx\\.").length - 1);
        check.same("there are calls", calls > 9, true);
    }

    private static Object answer(DrillContest x, String name, String list) throws ReflectiveOperationException {
        String[] words = list.isEmpty() ? new String[0] : list.split(", *");
        Class<?>[] types = new Class<?>[words.length];
        Object[] values = new Object[words.length];
        for (int k = 0; k < words.length; k++) {
            types[k] = int.class;
            values[k] = (int) (long) Long.decode(words[k]);
        }
        return DrillContest.class.getMethod(name, types).invoke(x, values);
    }
}
