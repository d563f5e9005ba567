import java.io.IOException;
import java.net.URL;
import java.net.URLClassLoader;
import java.nio.file.Files;
import java.nio.file.Path;
import java.util.ArrayList;
import java.util.List;
import java.util.Set;
import java.util.TreeSet;
import java.util.regex.Matcher;
import java.util.regex.Pattern;
import java.util.stream.Stream;
import javax.tools.ToolProvider;

/** What README.md says is so: its example's answers, and its list of tests. Runs in the project's directory. */
public final class ReadmeTest {
    private static final Pattern EXAMPLE = Pattern.compile("```java\n(.*?)```", Pattern.DOTALL);
    private static final Pattern TOLD = Pattern.compile("(?m)^int (\\w+) = .*; *// (\\d+)$");
    private static final Pattern TEST_NAME = Pattern.compile("`(\\w+Test)`");
    private static final Path TESTS = Path.of("src", "test", "java");

    private final Check check = new Check();
    private final String readme;

    private ReadmeTest(String readme) {
        this.readme = readme;
    }

    public static void main(String[] args) throws Exception {
        ReadmeTest test = new ReadmeTest(Files.readString(Path.of("README.md")));
        test.namesTheTests();
        test.exampleAnswersAsTold();
        test.check.finish();
    }

    private void namesTheTests() throws IOException {
        Set<String> named = new TreeSet<>();
        Matcher name = TEST_NAME.matcher(readme);
        while (name.find()) {
            named.add(name.group(1));
        }
        Set<String> there = new TreeSet<>();
        try (Stream<Path> files = Files.list(TESTS)) {
            files.map(file -> file.getFileName().toString()).filter(file -> file.endsWith("Test.java"))
                .forEach(file -> there.add(file.substring(0, file.length() - ".java".length())));
        }
        check.due("named " + named + ", there " + there + ": alike", named.equals(there) ? 1 : 0, 1);
    }

    private void exampleAnswersAsTold() throws Exception {
        Matcher example = EXAMPLE.matcher(readme);
        check.due("an example is there", example.find() ? 1 : 0, 1);
        String code = example.group(1);
        List<String> names = new ArrayList<>();
        List<Integer> due = new ArrayList<>();
        Matcher told = TOLD.matcher(code);
        while (told.find()) {
            names.add(told.group(1));
            due.add(Integer.parseInt(told.group(2)));
        }
        check.due("the example tells answers", names.isEmpty() ? 0 : 1, 1);
        int[] answers = answers(code, names);
        for (int i = 0; i < answers.length; i++) {
            check.due("the example's " + names.get(i), answers[i], due.get(i));
        }
    }

    private static int[] answers(String code, List<String> names) throws Exception {
        Path directory = Files.createTempDirectory("readme");
        Path source = directory.resolve("Example.java");
        Path compiled = directory.resolve("Example.class");
        try {
            Files.writeString(source, "public final class Example {\npublic static int[] answers() {\n" + code
                + "return new int[] {" + String.join(", ", names) + "};\n}\n}\n");
            int failed = ToolProvider.getSystemJavaCompiler().run(null, null, null, "-cp",
                System.getProperty("java.class.path"), "-d", directory.toString(), source.toString());
            if (failed != 0) {
                throw new IllegalStateException("the example does not compile");
            }
            try (URLClassLoader loader = new URLClassLoader(new URL[] {directory.toUri().toURL()})) {
                return (int[]) loader.loadClass("Example").getMethod("answers").invoke(null);
            }
        } finally {
            Files.deleteIfExists(compiled);
            Files.deleteIfExists(source);
            Files.deleteIfExists(directory);
        }
    }
}
