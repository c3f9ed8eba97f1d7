import java.io.IOException;
import java.lang.reflect.Method;
import java.lang.reflect.Modifier;
import java.nio.file.Files;
import java.nio.file.Path;
import java.util.HashMap;
import java.util.List;
import java.util.Map;
import java.util.Set;
import java.util.TreeSet;
import java.util.regex.Matcher;
import java.util.regex.Pattern;
import java.util.stream.Collectors;
import java.util.stream.Stream;

/** That README.md is so: its example call by call, and its list of tests. */
public final class ReadmeTest {
    private static final String FIRST_LINE = "InspectRows x = new InspectRows();";
    private static final Pattern CALL = Pattern.compile("(?:int (\\w+) = )?x\\.(\\w+)\\(([^()]*)\\); +// (.+)");
    private static final Pattern ANSWER = Pattern.compile("(-?\\d+|throws \\w+): .+");
    private static final Pattern TEST_NAME = Pattern.compile("`(\\w+Test)`");

    private final InspectRows x = new InspectRows();
    private final Map<String, Long> named = new HashMap<>();
    private final Set<String> called = new TreeSet<>();

    public static void main(String[] args) throws IOException {
        String text = Files.readString(Path.of("README.md"));
        new ReadmeTest().checkExample(example(text));
        checkTests(text);
        Check.finish();
    }

    private static List<String> example(String text) {
        Matcher block = Pattern.compile("```java\n(.*?)```", Pattern.DOTALL).matcher(text);
        return block.find() ? block.group(1).lines().toList() : List.of();
    }

    private void checkExample(List<String> lines) {
        Check.isTrue("the example begins with " + FIRST_LINE, !lines.isEmpty() && lines.get(0).equals(FIRST_LINE));
        lines.stream().skip(1).forEach(this::checkLine);
        Check.isTrue("the example calls " + called + " of " + face(), called.equals(face()));
    }

    private void checkLine(String line) {
        Matcher call = CALL.matcher(line);
        if (!call.matches() || !face().contains(call.group(2))) {
            Check.report("not a line of the example: " + line);
            return;
        }
        called.add(call.group(2));
        String got = Calls.outcome(x, call.group(2), numbers(call.group(3)));
        Check.isTrue(line + " .. answered " + got, got.equals(answerTold(call.group(4))));
        if (call.group(1) != null) {
            named.put(call.group(1), Long.parseLong(got));
        }
    }

    /** As Calls tells outcomes, so "null" where the comment begins with no answer. */
    private static String answerTold(String comment) {
        Matcher answer = ANSWER.matcher(comment);
        return answer.matches() ? answer.group(1).replace("throws ", "throws.") : "null";
    }

    private long[] numbers(String given) {
        return Stream.of(given.split(",")).map(String::strip).filter(one -> !one.isEmpty())
            .mapToLong(one -> named.containsKey(one) ? named.get(one) : Long.parseLong(one.replace("_", "")))
            .toArray();
    }

    private static Set<String> face() {
        return Stream.of(InspectRows.class.getDeclaredMethods())
            .filter(method -> Modifier.isPublic(method.getModifiers()))
            .map(Method::getName).collect(Collectors.toCollection(TreeSet::new));
    }

    private static void checkTests(String text) throws IOException {
        Set<String> told = TEST_NAME.matcher(text).results().map(found -> found.group(1))
            .collect(Collectors.toCollection(TreeSet::new));
        try (Stream<Path> files = Files.list(Path.of("src/test/java"))) {
            Set<String> kept = files.map(file -> file.getFileName().toString())
                .filter(name -> name.endsWith("Test.java")).map(name -> name.replace(".java", ""))
                .collect(Collectors.toCollection(TreeSet::new));
            Check.isTrue("README.md tells the tests " + told + ", there are " + kept, told.equals(kept));
        }
    }
}
