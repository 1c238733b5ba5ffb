import java.io.IOException;
import java.lang.reflect.InvocationTargetException;
import java.lang.reflect.Method;
import java.nio.file.Files;
import java.nio.file.Path;
import java.util.List;
import java.util.Set;
import java.util.TreeSet;
import java.util.regex.Matcher;
import java.util.regex.Pattern;
import java.util.stream.Collectors;
import java.util.stream.Stream;

/** README.md: each call of its example answers what stands behind it, and its table names every test. */
public final class ReadmeTest {
    private static final Path README = Path.of("README.md");
    private static final Path TESTS = Path.of("src/test/java");
    private static final String FIRST_LINE = "TwoTimesTable table = new TwoTimesTable();";
    private static final Pattern CALL =
        Pattern.compile("table\\.(\\w+)\\(([-0-9, ]*)\\);\\s+// (throws \\w+|[-\\w]+)(: .*)?");
    private static final Pattern TEST_NAME = Pattern.compile("\\| `(\\w+Test)` \\|.*");

    private static final Due due = new Due();

    public static void main(String[] args) throws IOException {
        List<String> lines = Files.readAllLines(README);
        callsAnswerAsTold(lines);
        testsAreThoseOfTheTable(lines);
        due.end("ReadmeTest");
    }

    private static void callsAnswerAsTold(List<String> lines) {
        TwoTimesTable table = new TwoTimesTable();
        Set<String> called = new TreeSet<>();
        for (String line : example(lines)) {
            if (line.isBlank() || line.equals(FIRST_LINE)) {
                continue;
            }
            Matcher call = CALL.matcher(line);
            due.is("a call with its answer: " + line, true, call.matches());
            if (call.matches()) {
                called.add(call.group(1));
                String got = outcome(table, call.group(1), call.group(2));
                due.is(line + " (" + got + ")", true, got.equals(call.group(3)));
            }
        }
        for (Method method : faceMethods()) {
            due.is("the example calls " + method.getName(), true, called.contains(method.getName()));
        }
    }

    private static List<String> example(List<String> lines) {
        int first = lines.indexOf("```java") + 1;
        int end = first + lines.subList(first, lines.size()).indexOf("```");
        due.is("the example begins with a new table", true, lines.get(first).equals(FIRST_LINE));
        return lines.subList(first, end);
    }

    private static List<Method> faceMethods() {
        return List.of(TwoTimesTable.class.getMethods()).stream()
            .filter(method -> method.getDeclaringClass() == TwoTimesTable.class)
            .collect(Collectors.toList());
    }

    private static String outcome(TwoTimesTable table, String name, String arguments) {
        Object[] numbers = Stream.of(arguments.split(",")).map(String::trim).filter(text -> !text.isEmpty())
            .map(Integer::valueOf).toArray();
        for (Method method : faceMethods()) {
            if (method.getName().equals(name) && method.getParameterCount() == numbers.length) {
                return outcome(table, method, numbers);
            }
        }
        return "no such call";
    }

    private static String outcome(TwoTimesTable table, Method method, Object[] numbers) {
        try {
            return String.valueOf(method.invoke(table, numbers));
        } catch (InvocationTargetException e) {
            return "throws " + e.getCause().getClass().getSimpleName();
        } catch (IllegalAccessException e) {
            return "no such call in sight";
        }
    }

    private static void testsAreThoseOfTheTable(List<String> lines) throws IOException {
        Set<String> named = new TreeSet<>();
        for (String line : lines) {
            Matcher test = TEST_NAME.matcher(line);
            if (test.matches()) {
                named.add(test.group(1));
            }
        }
        Set<String> there;
        try (Stream<Path> files = Files.list(TESTS)) {
            there = files.map(file -> file.getFileName().toString()).filter(file -> file.endsWith("Test.java"))
                .map(file -> file.substring(0, file.length() - ".java".length()))
                .collect(Collectors.toCollection(TreeSet::new));
        }
        due.is("the tests that are there, " + there + ", are those named, " + named, true, there.equals(named));
    }
}
