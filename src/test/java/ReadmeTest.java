import java.io.ByteArrayOutputStream;
import java.io.IOException;
import java.io.PrintStream;
import java.lang.reflect.Method;
import java.lang.reflect.Modifier;
import java.nio.file.Files;
import java.nio.file.Path;
import java.util.Arrays;
import java.util.Set;
import java.util.TreeSet;
import java.util.regex.Matcher;
import java.util.regex.Pattern;
import java.util.stream.Collectors;
import java.util.stream.Stream;

/** README.md: its example, what that prints, its table of methods, and its table of tests. */
public final class ReadmeTest {
    private static final Check CHECK = new Check();
    private static final Path TESTS = Path.of("src", "test", "java");
    private static final Pattern METHOD_ROW = Pattern.compile("(?m)^\\| `(\\w+)\\(([^)]*)\\)` \\| .* \\|([ SXA]*)\\|$");
    private static final Pattern TEST_ROW = Pattern.compile("(?m)^\\| (\\w+Test) \\| .* \\|$");

    public static void main(String[] args) throws IOException {
        String readme = Files.readString(Path.of("README.md"));
        CHECK.sameText("the example", block(readme, "java"), Files.readString(TESTS.resolve("Example.java")));
        CHECK.sameText("the example", block(readme, "text"), printed());
        CHECK.sameText("the table of methods", methodsTold(readme).toString(), methodsDeclared().toString());
        CHECK.sameText("the table of tests", testsTold(readme).toString(), testsThatStand().toString());
        CHECK.end();
    }

    /** What stands between the only fence of this language and the next one. */
    private static String block(String readme, String language) {
        String fence = "```" + language + "\n";
        int from = readme.indexOf(fence);
        int to = from < 0 ? -1 : readme.indexOf("```\n", from + fence.length());
        return to < 0 || readme.lastIndexOf(fence) != from ? "no such block, or two"
                : readme.substring(from + fence.length(), to);
    }

    private static String printed() {
        PrintStream real = System.out;
        ByteArrayOutputStream bytes = new ByteArrayOutputStream();
        System.setOut(new PrintStream(bytes, true));
        try {
            Example.main(new String[0]);
        } finally {
            System.setOut(real);
        }
        return bytes.toString().replace(System.lineSeparator(), "\n");
    }

    private static Set<String> methodsTold(String readme) {
        Set<String> told = new TreeSet<>();
        Matcher row = METHOD_ROW.matcher(readme);
        while (row.find()) {
            String types = Stream.of(row.group(2).split(", ")).map(p -> p.split(" ")[0])
                    .collect(Collectors.joining(","));
            CHECK.same(row.group(1) + " stands once", told.add(row.group(1) + '(' + types + ") "
                    + row.group(3).replace(" ", "")), true);
        }
        return told;
    }

    private static Set<String> methodsDeclared() {
        Set<String> declared = new TreeSet<>();
        for (Method m : RodYard.class.getDeclaredMethods()) {
            if (Modifier.isPublic(m.getModifiers())) {
                String types = Arrays.stream(m.getParameterTypes()).map(Class::getSimpleName)
                        .collect(Collectors.joining(","));
                String thrown = Arrays.stream(m.getExceptionTypes()).map(ReadmeTest::letter)
                        .collect(Collectors.joining());
                declared.add(m.getName() + '(' + types + ") " + thrown);
            }
        }
        return declared;
    }

    private static String letter(Class<?> exception) {
        return exception == Check.STATE ? "S" : exception == Check.INDEX ? "X" : exception == Check.ARGUMENT ? "A" : "?";
    }

    private static Set<String> testsTold(String readme) {
        Set<String> told = new TreeSet<>();
        Matcher row = TEST_ROW.matcher(readme);
        while (row.find()) {
            CHECK.same(row.group(1) + " stands once", told.add(row.group(1)), true);
        }
        return told;
    }

    private static Set<String> testsThatStand() throws IOException {
        try (Stream<Path> files = Files.list(TESTS)) {
            return files.map(file -> file.getFileName().toString()).filter(name -> name.endsWith("Test.java"))
                    .map(name -> name.substring(0, name.length() - ".java".length()))
                    .collect(Collectors.toCollection(TreeSet::new));
        }
    }
}
