import java.io.ByteArrayOutputStream;
import java.io.IOException;
import java.io.PrintStream;
import java.lang.reflect.Method;
import java.nio.charset.StandardCharsets;
import java.nio.file.Files;
import java.nio.file.Path;
import java.util.Arrays;
import java.util.Set;
import java.util.TreeSet;
import java.util.regex.Matcher;
import java.util.regex.Pattern;
import java.util.stream.Collectors;
import java.util.stream.Stream;

/**
 * README.md: its example is Example.java, shows each call, and prints what its comments tell; its list of tests is
 * whole. src/test/README.md: the tests that it names are there. It is run in the directory of the project.
 */
final class ReadmeTest {
    private static final Path TESTS = Path.of("src/test/java");
    private static final Pattern SHOWN = Pattern.compile("(?m)^ *show\\(.*\\); *// ([^:\n]+): ");
    private static final Pattern NAME = Pattern.compile("([A-Z]\\w*Test)(?:\\.(\\w+))?|\\b([a-z]\\w*)\\b");

    public static void main(String[] args) throws IOException {
        String readme = Files.readString(Path.of("README.md"));
        String example = Files.readString(TESTS.resolve("Example.java"));
        exampleIsTheOneOfReadme(readme, example);
        exampleTellsItsAnswers(example);
        exampleShowsEachCall(example);
        testsAreNamed(readme);
        sentencesHaveTests(Files.readString(Path.of("src/test/README.md")));
        Check.finish("ReadmeTest");
    }

    private static void exampleIsTheOneOfReadme(String readme, String example) {
        int begin = readme.indexOf("```java\n");
        int end = readme.indexOf("```\n", begin + 1);
        Check.same("README.md has an example", begin >= 0 && end >= 0 ? 1 : 0, 1);
        if (begin >= 0 && end >= 0) {
            Check.sameText("the example of README.md", readme.substring(begin + "```java\n".length(), end), example);
        }
    }

    private static String printed() {
        PrintStream before = System.out;
        ByteArrayOutputStream caught = new ByteArrayOutputStream();
        System.setOut(new PrintStream(caught, true, StandardCharsets.UTF_8));
        try {
            Example.main(new String[0]);
        } finally {
            System.setOut(before);
        }
        return caught.toString(StandardCharsets.UTF_8).replace("\r\n", "\n");
    }

    private static void exampleTellsItsAnswers(String example) {
        StringBuilder told = new StringBuilder();
        int lines = 0;
        Matcher shown = SHOWN.matcher(example);
        while (shown.find()) {
            told.append(shown.group(1)).append('\n');
            lines++;
        }
        Check.same("each line that shows an answer tells it", lines, example.split("\n *show\\(").length - 1);
        Check.sameText("the example", printed(), told.toString());
    }

    private static void exampleShowsEachCall(String example) {
        for (Method method : StripeTasks.class.getMethods()) {
            if (method.getDeclaringClass() == StripeTasks.class) {
                boolean shown = example.contains("array." + method.getName() + "(");
                Check.same("the example shows " + method.getName(), shown ? 1 : 0, 1);
            }
        }
    }

    private static void testsAreNamed(String readme) throws IOException {
        Set<String> named = new TreeSet<>();
        Matcher name = Pattern.compile("`([A-Z]\\w*Test)`").matcher(readme);
        while (name.find()) {
            named.add(name.group(1));
        }
        try (Stream<Path> files = Files.list(TESTS)) {
            Set<String> there = files.map(file -> file.getFileName().toString())
                    .filter(file -> file.endsWith("Test.java"))
                    .map(file -> file.substring(0, file.length() - ".java".length()))
                    .collect(Collectors.toCollection(TreeSet::new));
            Check.sameText("the tests that README.md names", named.toString(), there.toString());
        }
    }

    /** In each row of a table, all cells behind the first one name tests: a class, or a class and methods of it. */
    private static void sentencesHaveTests(String readme) {
        int rows = 0;
        for (String line : readme.split("\n")) {
            String[] cells = line.split("\\|");
            if (!line.startsWith("| ") || !line.contains("Test")) {
                continue;
            }
            rows++;
            Class<?> test = null;
            Matcher name = NAME.matcher(String.join(" ", Arrays.copyOfRange(cells, 2, cells.length)));
            while (name.find()) {
                if (name.group(1) != null) {
                    test = classNamed(name.group(1));
                }
                String method = name.group(1) != null ? name.group(2) : name.group(3);
                if (method != null) {
                    Check.same(method + " is a test of " + test, has(test, method) ? 1 : 0, 1);
                }
            }
        }
        Check.same("src/test/README.md has rows", rows > 0 ? 1 : 0, 1);
    }

    private static Class<?> classNamed(String name) {
        try {
            return Class.forName(name);
        } catch (ClassNotFoundException e) {
            Check.fail("src/test/README.md names " + name + ", which is not there");
            return null;
        }
    }

    private static boolean has(Class<?> test, String method) {
        return test != null && Stream.of(test.getDeclaredMethods()).anyMatch(one -> one.getName().equals(method));
    }
}
