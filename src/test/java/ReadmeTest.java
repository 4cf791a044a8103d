import java.io.IOException;
import java.lang.reflect.Field;
import java.lang.reflect.Method;
import java.lang.reflect.Modifier;
import java.nio.file.Files;
import java.nio.file.Path;
import java.util.List;
import java.util.TreeSet;
import java.util.regex.Matcher;
import java.util.regex.Pattern;
import javax.tools.JavaCompiler;
import javax.tools.ToolProvider;

/** README.md tells what is so: its examples answer as told, its tables name each call and constant. Run from the project's folder. */
public final class ReadmeTest {
    private static final String EXAMPLES = "ReadmeExamples";
    /** A call with its answer behind it, as in: street.serve(); // 1: who it is. */
    private static final Pattern ANSWERED = Pattern.compile("\\s*street\\.(\\w+)(\\(.*\\));\\s*// (-?\\d+)(?::.*)?");
    private static final Pattern CALL = Pattern.compile("\\s*street\\.\\w+\\(.*");

    private static List<String> page;
    private static final TreeSet<String> shown = new TreeSet<>();

    public static void main(String[] args) throws Exception {
        page = Files.readAllLines(Path.of("README.md"));
        String examples = examples();
        Checks.edge("its examples answer as told", () -> run(examples));
        Checks.edge("each call is in an example and in a table", ReadmeTest::callsAreTold);
        Checks.edge("the constants are the class's", ReadmeTest::constantsAreTold);
        Checks.edge("each test is told", ReadmeTest::testsAreTold);
        Checks.end("sentences on README.md hold");
    }

    /** The blocks of Java, one behind the other as the page says, each answered call as a check of it. */
    private static String examples() {
        StringBuilder source = new StringBuilder("final class " + EXAMPLES + " implements Runnable {\npublic void run() {\n");
        boolean isInside = false;
        for (int k = 0; k < page.size(); k++) {
            String line = page.get(k);
            if (line.startsWith("```")) {
                isInside = line.equals("```java");
                continue;
            }
            if (isInside) {
                source.append(asCheck(line, k + 1)).append('\n');
            }
        }
        return source.append("}\n}\n").toString();
    }

    private static String asCheck(String line, int at) {
        Matcher call = ANSWERED.matcher(line);
        if (!call.matches()) {
            Checks.due("line " + at + " tells its answer: " + line, CALL.matcher(line).matches() && !line.contains("feed(c)") ? 0 : 1, 1);
            return line;
        }
        shown.add(call.group(1));
        String told = call.group(1) + call.group(2);
        return "Checks.due(\"line " + at + ": " + told + "\", street." + told + ", " + call.group(3) + "L);";
    }

    private static void run(String examples) {
        // Where this test's own classes lie, so that they are found from there.
        Path folder = Path.of(System.getProperty("java.class.path"));
        try {
            Path file = Files.writeString(Files.createTempDirectory(folder, "readme").resolve(EXAMPLES + ".java"),
                examples.replace(Long.MIN_VALUE + "L", "Long.MIN_VALUE"));
            JavaCompiler compiler = ToolProvider.getSystemJavaCompiler();
            int refused = compiler.run(null, null, null, "--release", "17", "-cp", folder.toString(), "-d", folder.toString(), file.toString());
            Checks.due("the examples compile", refused, 0);
            if (refused == 0) {
                ((Runnable) Class.forName(EXAMPLES).getDeclaredConstructor().newInstance()).run();
            }
        } catch (IOException | ReflectiveOperationException e) {
            throw new IllegalStateException(e);
        }
    }

    private static void callsAreTold() {
        for (Method method : TallerAhead.class.getDeclaredMethods()) {
            if (!Modifier.isPublic(method.getModifiers())) {
                continue;
            }
            Checks.due(method.getName() + " is in an example", shown.contains(method.getName()) ? 1 : 0, 1);
            Checks.due(method.getName() + " is in one table", rowsOf("`" + method.getName() + "\\(" + names(method.getParameterCount()) + "\\)`"), 1);
        }
    }

    private static String names(int parameters) {
        return parameters == 0 ? "" : "\\w+(, \\w+){" + (parameters - 1) + "}";
    }

    private static long rowsOf(String first) {
        return page.stream().filter(line -> line.matches("\\| " + first + " \\|.*")).count();
    }

    private static void constantsAreTold() {
        for (Field field : TallerAhead.class.getDeclaredFields()) {
            if (Modifier.isPublic(field.getModifiers())) {
                Checks.due(field.getName(), rowsOf("`" + field.getName() + "` \\| " + value(field)), 1);
            }
        }
    }

    private static int value(Field field) {
        try {
            return field.getInt(null);
        } catch (IllegalAccessException e) {
            throw new IllegalStateException(e);
        }
    }

    private static void testsAreTold() {
        for (String name : Path.of("src/test/java").toFile().list()) {
            String told = "`" + name.replace(".java", "") + "`";
            Checks.due(told, page.stream().anyMatch(line -> line.contains(told)) ? 1 : 0, 1);
        }
    }
}
