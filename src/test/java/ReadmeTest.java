import java.io.IOException;
import java.lang.reflect.InvocationTargetException;
import java.net.URL;
import java.net.URLClassLoader;
import java.nio.file.Files;
import java.nio.file.Path;
import java.util.List;
import java.util.regex.Matcher;
import java.util.regex.Pattern;
import java.util.stream.Stream;
import javax.tools.JavaCompiler;
import javax.tools.ToolProvider;

/**
 * What README.md says: its example is compiled and run, each call in it must answer what stands behind it, and
 * each test and each class inside the program must be named.
 */
public final class ReadmeTest {
    private static final Path PAGE = Path.of("README.md");
    private static final Path TESTS = Path.of("src/test/java");
    private static final Path SCRIPT = Path.of(".ci/run");
    private static final Pattern ANSWERED = Pattern.compile("^(x\\.\\w+\\(.*\\)); +// (-?\\d+|true|false)(?::.*)?$");

    private static int wrong = 0;
    private static int checked = 0;

    public static void main(String[] args) throws Exception {
        String page = Files.readString(PAGE);
        example(page);
        tests(page);
        classes(page);
        System.out.println("ReadmeTest: " + checked + " sayings checked, " + wrong + " wrong");
        if (wrong != 0) {
            System.exit(1);
        }
    }

    /** Called by the example, once it is compiled. */
    public static void due(String call, Object got, String due) {
        must(String.valueOf(got).equals(due), call + " answers " + due + ", it answered " + got);
    }

    private static void example(String page) throws Exception {
        Matcher block = Pattern.compile("(?s)```java\n(.*?)```").matcher(page);
        boolean found = block.find();
        must(found, "there is an example");
        if (found) {
            int before = checked;
            run(sourceOf(block.group(1)));
            must(checked - before >= 10, "the example has answers");
        }
    }

    private static String sourceOf(String example) {
        StringBuilder source = new StringBuilder("public class ReadmeExample { public static void main(String[] args) {\n");
        for (String line : example.split("\n")) {
            Matcher answered = ANSWERED.matcher(line);
            if (answered.matches()) {
                String call = answered.group(1);
                source.append("ReadmeTest.due(\"").append(call).append("\", ").append(call).append(", \"")
                    .append(answered.group(2)).append("\");\n");
            } else {
                must(!line.contains("; //") && !line.contains("  //"), "an answer can be read from: " + line);
                source.append(line).append('\n');
            }
        }
        return source.append("} }\n").toString();
    }

    private static void run(String source) throws Exception {
        JavaCompiler compiler = ToolProvider.getSystemJavaCompiler();
        Path directory = Files.createTempDirectory("readme");
        try {
            Path file = directory.resolve("ReadmeExample.java");
            Files.writeString(file, source);
            String path = System.getProperty("java.class.path");
            int failed = compiler.run(null, null, null, "-cp", path, "-d", directory.toString(), file.toString());
            must(failed == 0, "the example compiles");
            if (failed == 0) {
                start(directory);
            }
        } finally {
            remove(directory);
        }
    }

    private static void start(Path directory) throws Exception {
        try (URLClassLoader loader = new URLClassLoader(new URL[] {directory.toUri().toURL()},
                ReadmeTest.class.getClassLoader())) {
            loader.loadClass("ReadmeExample").getMethod("main", String[].class).invoke(null, (Object) new String[0]);
        } catch (InvocationTargetException e) {
            must(false, "the example runs, it threw " + e.getCause());
        }
    }

    private static void remove(Path directory) throws IOException {
        List<Path> inside;
        try (Stream<Path> files = Files.list(directory)) {
            inside = files.toList();
        }
        for (Path file : inside) {
            Files.delete(file);
        }
        Files.delete(directory);
    }

    private static void tests(String page) throws IOException {
        must(page.contains("\n    .ci/run\n"), "the tests are run by .ci/run");
        must(Files.isExecutable(SCRIPT), ".ci/run can be run");
        String script = Files.readString(SCRIPT);
        for (String where : new String[] {"../shared/tests", "src/test/java/*Test.java", "src/test/java/support", "java -ea"}) {
            must(page.contains(where) && script.contains(where), "page and script name " + where);
        }
        try (Stream<Path> files = Files.list(TESTS)) {
            for (Path file : files.filter(path -> path.toString().endsWith("Test.java")).toList()) {
                String name = file.getFileName().toString().replace(".java", "");
                must(page.contains("`" + name + "`"), "the page names " + name);
            }
        }
    }

    private static void classes(String page) {
        for (Class<?> type : NotAtOnce.class.getDeclaredClasses()) {
            must(page.contains("`" + type.getSimpleName() + "`"), "the page names " + type.getSimpleName());
        }
    }

    private static void must(boolean so, String what) {
        checked++;
        if (!so) {
            wrong++;
            System.out.println("not so: " + what);
        }
    }
}
