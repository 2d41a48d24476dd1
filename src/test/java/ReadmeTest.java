import java.io.IOException;
import java.lang.reflect.InvocationTargetException;
import java.lang.reflect.Method;
import java.lang.reflect.Modifier;
import java.nio.file.DirectoryStream;
import java.nio.file.Files;
import java.nio.file.Path;
import java.util.ArrayList;
import java.util.HashMap;
import java.util.List;
import java.util.Map;
import java.util.Set;
import java.util.TreeSet;
import java.util.regex.Matcher;
import java.util.regex.Pattern;

/** README.md, line by line: what stands behind a call is what it answers, or the exception that it throws. */
public final class ReadmeTest {
    private static final String MAKING = "Haltingale x = new Haltingale();";
    /** A call, maybe with a name for its answer, and behind it what it answers, up to a colon. */
    private static final Pattern CALL =
            Pattern.compile("(?:int (\\w+) = )?x\\.(\\w+)\\(([^)]*)\\); +// (throws \\w+|[^ :]+)(?:: .*)?");

    private final Checks checks = new Checks("ReadmeTest");
    private final Map<String, Integer> named = new HashMap<>();
    private final Set<String> thrown = new TreeSet<>();
    private Haltingale x;

    public static void main(String[] args) throws IOException, ReflectiveOperationException {
        ReadmeTest test = new ReadmeTest();
        List<String> lines = Files.readAllLines(Path.of("README.md"));
        test.examples(lines);
        test.namesAllMethods(String.join("\n", lines));
        test.namesAllTests(String.join("\n", lines));
        test.checks.end();
    }

    private void examples(List<String> lines) throws ReflectiveOperationException {
        boolean isCode = false;
        for (String line : lines) {
            if (line.startsWith("```")) {
                isCode = line.equals("```java");
            } else if (isCode && !line.isBlank()) {
                example(line);
            }
        }
        // As a text: the order of a Set.of differs from run to run.
        checks.is("the exceptions that are shown", "[throws IllegalArgumentException, throws IllegalStateException, "
                + "throws IndexOutOfBoundsException]", () -> thrown.toString());
    }

    private void example(String line) throws ReflectiveOperationException {
        if (line.equals(MAKING)) {
            x = new Haltingale();
            return;
        }
        Matcher matcher = CALL.matcher(line);
        if (x == null || !matcher.matches()) {
            checks.same(line, "not understood", "a call with its answer");
            return;
        }
        String outcome = outcomeOf(matcher.group(2), matcher.group(3));
        checks.same(line, outcome, matcher.group(4));
        if (outcome.startsWith("throws ")) {
            thrown.add(outcome);
        } else if (matcher.group(1) != null) {
            named.put(matcher.group(1), Integer.valueOf(outcome));
        }
    }

    private String outcomeOf(String name, String numbers) throws ReflectiveOperationException {
        List<Object> told = new ArrayList<>();
        if (!numbers.isEmpty()) {
            for (String number : numbers.split(", ")) {
                told.add(named.containsKey(number) ? named.get(number) : Integer.valueOf(number));
            }
        }
        for (Method method : Haltingale.class.getMethods()) {
            if (method.getName().equals(name) && method.getParameterCount() == told.size()) {
                try {
                    return String.valueOf(method.invoke(x, told.toArray()));
                } catch (InvocationTargetException e) {
                    return "throws " + e.getCause().getClass().getSimpleName();
                }
            }
        }
        return "no method";
    }

    private void namesAllMethods(String readme) {
        for (Method method : Haltingale.class.getDeclaredMethods()) {
            if (Modifier.isPublic(method.getModifiers())) {
                checks.is("README.md names " + method.getName(), true,
                        () -> readme.contains("`" + method.getName() + "`"));
            }
        }
    }

    private void namesAllTests(String readme) throws IOException {
        checks.is("README.md names the command", true, () -> readme.contains("\n.ci/run\n"));
        try (DirectoryStream<Path> files = Files.newDirectoryStream(Path.of("src/test/java"), "*Test.java")) {
            for (Path file : files) {
                String test = file.getFileName().toString().replace(".java", "");
                checks.is("README.md names " + test, true, () -> readme.contains("\n| " + test + " |"));
            }
        }
    }
}
