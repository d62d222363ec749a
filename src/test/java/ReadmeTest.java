import java.lang.reflect.Method;
import java.lang.reflect.Modifier;
import java.net.URL;
import java.net.URLClassLoader;
import java.nio.file.Files;
import java.nio.file.Path;
import java.util.ArrayList;
import java.util.List;
import java.util.regex.Matcher;
import java.util.regex.Pattern;
import javax.tools.ToolProvider;

/** README.md: its example is compiled and answers what stands behind each call, and its table has every call. */
public final class ReadmeTest {
    private static final Check check = new Check();
    private static final Pattern EXAMPLE = Pattern.compile("```java\\n(.*?)```", Pattern.DOTALL);
    private static final Pattern CALL_WITH_ANSWER = Pattern.compile("(house\\..*);\\s*// (-?\\d+): .*");
    private static final Pattern TABLE_ROW = Pattern.compile("(?m)^\\| `(\\w+)\\((.*?)\\)` \\| ");

    public static void main(String[] args) throws Exception {
        String readme = Files.readString(Path.of("README.md"));
        tableHasEveryCall(readme);
        exampleAnswersAsTold(readme);
        everyTestIsNamed(readme);
        check.end();
    }

    private static void tableHasEveryCall(String readme) {
        List<String> rows = new ArrayList<>();
        Matcher row = TABLE_ROW.matcher(readme);
        while (row.find()) {
            int parameters = row.group(2).isEmpty() ? 0 : row.group(2).split(",").length;
            rows.add(row.group(1) + " of " + parameters);
        }
        int calls = 0;
        for (Method method : EggHouse.class.getDeclaredMethods()) {
            if (Modifier.isPublic(method.getModifiers())) {
                calls++;
                String call = method.getName() + " of " + method.getParameterCount();
                check.isTrue("the table has " + call, rows.contains(call));
            }
        }
        check.due("rows of the table", rows.size(), calls);
    }

    private static void exampleAnswersAsTold(String readme) throws Exception {
        Matcher example = EXAMPLE.matcher(readme);
        if (!example.find()) {
            check.isTrue("there is an example", false);
            return;
        }
        // The compiled example cannot see Check, which is not public, so it hands its answers back in a list.
        Matcher calls = CALL_WITH_ANSWER.matcher(example.group(1));
        check.isTrue("the example has calls", calls.find());
        String body = calls.replaceAll("told.add(new Object[] {\"$1\", (long) $1, $2L});");
        for (Object[] told : runExample(body)) {
            check.due("the example's " + told[0], (Long) told[1], (Long) told[2]);
        }
    }

    private static List<Object[]> runExample(String body) throws Exception {
        Path work = Files.createTempDirectory("readme");
        Path source = work.resolve("Example.java");
        Files.writeString(source, "public class Example { public static void run(java.util.List<Object[]> told) {\n"
                + body + "}}\n");
        String classes = System.getProperty("java.class.path");
        List<Object[]> told = new ArrayList<>();
        int exit = ToolProvider.getSystemJavaCompiler().run(null, null, null, "-cp", classes, "-d", work.toString(),
                source.toString());
        check.due("compiling the example", exit, 0);
        if (exit == 0) {
            URL[] place = {work.toUri().toURL()};
            try (URLClassLoader loader = new URLClassLoader(place, EggHouse.class.getClassLoader())) {
                loader.loadClass("Example").getMethod("run", List.class).invoke(null, told);
            }
        }
        for (String file : new String[] {"Example.java", "Example.class"}) {
            Files.deleteIfExists(work.resolve(file));
        }
        Files.delete(work);
        return told;
    }

    private static void everyTestIsNamed(String readme) throws Exception {
        try (var files = Files.list(Path.of("src/test/java"))) {
            for (Path file : files.toList()) {
                String name = file.getFileName().toString().replace(".java", "");
                check.isTrue("README.md names " + name, readme.contains("`" + name + "`"));
            }
        }
    }
}
