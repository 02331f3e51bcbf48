import java.io.ByteArrayOutputStream;
import java.io.IOException;
import java.io.PrintStream;
import java.lang.reflect.Method;
import java.net.URL;
import java.net.URLClassLoader;
import java.nio.file.Files;
import java.nio.file.Path;
import java.util.regex.Matcher;
import java.util.regex.Pattern;
import javax.tools.ToolProvider;

/** The example in README.md is compiled and run; it must print what its own comments say. */
final class ReadmeTests {
    private static final Pattern EXAMPLE = Pattern.compile("(?s)```java\\n(.*?)```");
    private static final Pattern PRINTED = Pattern.compile("System\\.out\\.println\\(.*\\); +// (-?\\d+)\\b");

    private ReadmeTests() {
    }

    static void runAll(String source) {
        Checks.run("the example of README.md", () -> {
            try {
                exampleOf(Files.readString(Path.of("README.md")), source);
            } catch (IOException | ReflectiveOperationException e) {
                Checks.fail("ended with " + e);
            }
        });
    }

    private static void exampleOf(String readme, String source) throws IOException, ReflectiveOperationException {
        Matcher example = EXAMPLE.matcher(readme);
        Checks.same("an example", String.valueOf(example.find()), "true");
        String code = example.group(1);
        StringBuilder due = new StringBuilder();
        Matcher printed = PRINTED.matcher(code);
        while (printed.find()) {
            due.append(printed.group(1)).append('\n');
        }
        Checks.due("lines with a comment that tells what they print", due.toString().lines().count(),
            code.split("println", -1).length - 1);
        Path directory = Files.createTempDirectory("readme");
        try {
            Path file = Files.writeString(directory.resolve("Example.java"), code);
            int rc = ToolProvider.getSystemJavaCompiler().run(null, null, null,
                "-d", directory.toString(), source, file.toString());
            Checks.due("compiling it", rc, 0);
            Checks.same("what it prints", printedBy(directory), due.toString());
        } finally {
            remove(directory);
        }
    }

    private static String printedBy(Path directory) throws IOException, ReflectiveOperationException {
        PrintStream before = System.out;
        ByteArrayOutputStream lines = new ByteArrayOutputStream();
        URL[] places = {directory.toUri().toURL()};
        try (URLClassLoader loader = new URLClassLoader(places, ClassLoader.getPlatformClassLoader())) {
            Method main = loader.loadClass("Example").getMethod("main", String[].class);
            System.setOut(new PrintStream(lines, true));
            main.invoke(null, (Object) new String[0]);
        } finally {
            System.setOut(before);
        }
        return lines.toString().replace("\r\n", "\n");
    }

    private static void remove(Path directory) throws IOException {
        try (var files = Files.list(directory)) {
            for (Path file : (Iterable<Path>) files::iterator) {
                Files.delete(file);
            }
        }
        Files.delete(directory);
    }
}
