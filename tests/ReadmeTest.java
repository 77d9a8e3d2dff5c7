import java.io.IOException;
import java.lang.reflect.Field;
import java.lang.reflect.Method;
import java.lang.reflect.Modifier;
import java.net.URL;
import java.net.URLClassLoader;
import java.nio.file.DirectoryStream;
import java.nio.file.Files;
import java.nio.file.Path;
import java.util.Comparator;
import java.util.List;
import java.util.regex.Matcher;
import java.util.regex.Pattern;
import java.util.stream.Stream;
import javax.tools.ToolProvider;

/** README.md: its example is compiled and run, and all calls, constants and tests are named. */
public final class ReadmeTest {
    private static final Pattern CALL = Pattern.compile("(space\\..*\\));\\s*// (-?\\d+): .*");

    private ReadmeTest() {
    }

    public static void main(String[] args) throws Exception {
        List<String> readme = Files.readAllLines(Path.of("README.md"));
        String text = String.join("\n", readme);
        for (Method method : HidingBoxes.class.getDeclaredMethods()) {
            boolean isNamed = text.contains("`" + method.getName() + "`");
            Check.that("README.md names " + method.getName(), isNamed || Modifier.isPrivate(method.getModifiers()));
        }
        for (Field field : HidingBoxes.class.getDeclaredFields()) {
            if (Modifier.isPublic(field.getModifiers())) {
                String row = "| " + field.getInt(null) + " +\\| `" + field.getName() + "`";
                Check.that("README.md tells of " + field.getName(), Pattern.compile(row).matcher(text).find());
            }
        }
        try (DirectoryStream<Path> tests = Files.newDirectoryStream(Path.of("tests"), "*Test.java")) {
            for (Path test : tests) {
                Check.that("README.md names " + test, text.contains("`tests/" + test.getFileName() + "`"));
            }
        }
        example(readme.subList(readme.indexOf("```java") + 1, readme.lastIndexOf("```")));
        Check.end("ReadmeTest");
    }

    /** A class with the example's lines; each call becomes a call of due(). */
    private static void example(List<String> lines) throws Exception {
        StringBuilder code = new StringBuilder("public final class Example {\n    public static void run() {\n");
        int calls = 0;
        for (String line : lines) {
            Matcher matcher = CALL.matcher(line);
            if (matcher.matches()) {
                calls++;
                code.append("ReadmeTest.due(\"").append(matcher.group(1)).append("\", ").append(matcher.group(1))
                        .append(", ").append(matcher.group(2)).append(");\n");
            } else {
                code.append(line).append('\n');
            }
        }
        Check.due("calls in the example", calls, lines.size() - 1);
        Path directory = Files.createTempDirectory("readme");
        try {
            Path file = directory.resolve("Example.java");
            Files.writeString(file, code.append("}\n}\n"));
            int exit = ToolProvider.getSystemJavaCompiler().run(null, null, null, "-proc:none", "-d",
                    directory.toString(), "-cp", System.getProperty("java.class.path"), file.toString());
            Check.due("compiling the example", exit, 0);
            if (exit == 0) {
                runExample(directory);
            }
        } finally {
            delete(directory);
        }
    }

    private static void runExample(Path directory) throws Exception {
        try (URLClassLoader loader = new URLClassLoader(new URL[] {directory.toUri().toURL()})) {
            loader.loadClass("Example").getMethod("run").invoke(null);
        }
    }

    /** Called by the example. */
    public static void due(String call, int got, int want) {
        Check.due("README.md: " + call, got, want);
    }

    private static void delete(Path directory) throws IOException {
        try (Stream<Path> files = Files.walk(directory)) {
            for (Path file : files.sorted(Comparator.reverseOrder()).toList()) {
                Files.delete(file);
            }
        }
    }
}
