import java.io.ByteArrayOutputStream;
import java.io.IOException;
import java.io.PrintStream;
import java.lang.reflect.Method;
import java.lang.reflect.Modifier;
import java.nio.charset.StandardCharsets;
import java.nio.file.Files;
import java.nio.file.Path;
import java.util.List;
import java.util.stream.Collectors;
import java.util.stream.Stream;

/** README.md tells of the calls, the example and the tests as they are. */
public final class ReadmeTest {
    private static final Path TESTS = Path.of("src/test/java");

    public static void main(String[] args) throws IOException {
        String readme = Files.readString(Path.of("README.md"));
        calls(readme);
        example(readme);
        tests(readme);
        Check.end();
    }

    private static void calls(String readme) {
        Check.due("the constructor stands there", readme.contains("`new UrlDesk()`"), true);
        for (Method method : UrlDesk.class.getDeclaredMethods()) {
            if (Modifier.isPublic(method.getModifiers())) {
                String beginning = "| `" + method.getReturnType().getName() + " " + method.getName() + "(";
                Check.due(method.getName() + " stands there", readme.contains(beginning), true);
            }
        }
    }

    private static void example(String readme) throws IOException {
        String source = Files.readString(TESTS.resolve("Example.java"));
        Check.due("the example stands there", readme.contains("```java\n" + source + "```\n"), true);
        Check.due("what it prints stands there", readme.contains("```text\n" + printed() + "```\n"), true);
    }

    private static String printed() {
        PrintStream before = System.out;
        ByteArrayOutputStream bytes = new ByteArrayOutputStream();
        System.setOut(new PrintStream(bytes, true, StandardCharsets.UTF_8));
        Example.main(new String[0]);
        System.setOut(before);
        return bytes.toString(StandardCharsets.UTF_8).replace(System.lineSeparator(), "\n");
    }

    private static void tests(String readme) throws IOException {
        for (String name : testNames()) {
            Check.due(name + " stands there", readme.contains("`" + name + "`"), true);
        }
    }

    private static List<String> testNames() throws IOException {
        try (Stream<Path> files = Files.list(TESTS)) {
            return files.map(file -> file.getFileName().toString())
                    .filter(name -> name.endsWith("Test.java"))
                    .map(name -> name.substring(0, name.length() - ".java".length()))
                    .sorted().collect(Collectors.toList());
        }
    }
}
