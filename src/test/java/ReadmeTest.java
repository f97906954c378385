import java.io.IOException;
import java.lang.reflect.InvocationTargetException;
import java.lang.reflect.Method;
import java.nio.file.Files;
import java.nio.file.Path;
import java.util.Set;
import java.util.TreeSet;
import java.util.regex.MatchResult;
import java.util.regex.Pattern;
import java.util.stream.Collectors;
import java.util.stream.Stream;

/** README.md tells the truth: what its example answers, which calls and refusals there are, which tests. */
public final class ReadmeTest {
    private static final Path README = Path.of("README.md");
    private static final Path DOCUMENT = Path.of("../shared/DOC.md");
    private static final Path TESTS = Path.of("src/test/java");

    private static final Pattern EXAMPLE = Pattern.compile("(?s)```java\\n(.*?)```");
    private static final String FIRST_LINE = "TypedHall hall = new TypedHall();";
    private static final Pattern STEP = Pattern.compile(
        "hall\\.(\\w+)\\(([-\\d, ]*)\\);(?: *// (answers|throws) (-?\\w+)(?:: .*)?)?");
    private static final String NO_ANSWER = "null";

    private static final Pattern CALL_ROW = Pattern.compile("(?m)^\\| `(\\w+\\([\\w, ]+\\))` \\|");
    private static final Pattern REFUSAL_ROW = Pattern.compile("(?m)^\\| `(\\w+Exception)` \\|");
    private static final Pattern NAMED_TEST = Pattern.compile("(?m)^- `(\\w+)`:");
    private static final Pattern FACE_LINE = Pattern.compile("(?m)^    public \\w+ (\\w+\\(.*?\\)) throws (.*);$");

    private static final Check check = new Check();

    public static void main(String[] args) throws IOException {
        String readme = Files.readString(README);
        String document = Files.readString(DOCUMENT);
        exampleAnswersAsTold(readme);
        sameCallsAsDocument(readme, document);
        sameRefusalsAsDocument(readme, document);
        everyTestIsNamed(readme);
        check.end();
    }

    private static void exampleAnswersAsTold(String readme) {
        String[] lines = all(EXAMPLE, readme).map(found -> found.group(1)).collect(Collectors.joining()).split("\\n");
        check.holds("the example begins with " + FIRST_LINE, lines[0].equals(FIRST_LINE));
        TypedHall hall = new TypedHall();
        int steps = 0;
        for (int line = 1; line < lines.length; line++) {
            if (!lines[line].isBlank()) {
                answersAsTold(hall, lines[line]);
                steps++;
            }
        }
        check.holds("steps in the example", steps > 0);
    }

    private static void answersAsTold(TypedHall hall, String line) {
        var step = STEP.matcher(line);
        boolean understood = step.matches();
        check.holds("a step of the example: " + line, understood);
        if (understood) {
            String told = step.group(4) == null ? NO_ANSWER : step.group(4);
            String got = answer(hall, step.group(1), step.group(2).split(", *"));
            check.holds(line + " (it was " + got + ")", told.equals(got));
        }
    }

    /** The answer as a text, or the name of the exception. */
    private static String answer(TypedHall hall, String name, String[] numbers) {
        for (Method method : TypedHall.class.getMethods()) {
            if (method.getName().equals(name) && method.getParameterCount() == numbers.length) {
                return answer(hall, method, numbers);
            }
        }
        return "no such call";
    }

    private static String answer(TypedHall hall, Method method, String[] numbers) {
        Object[] arguments = new Object[numbers.length];
        for (int i = 0; i < numbers.length; i++) {
            boolean isLong = method.getParameterTypes()[i] == long.class;
            arguments[i] = isLong ? (Object) Long.valueOf(numbers[i]) : (Object) Integer.valueOf(numbers[i]);
        }
        try {
            return String.valueOf(method.invoke(hall, arguments));
        } catch (InvocationTargetException e) {
            return e.getCause().getClass().getSimpleName();
        } catch (IllegalAccessException e) {
            return "no public call";
        }
    }

    private static void sameCallsAsDocument(String readme, String document) {
        Set<String> due = new TreeSet<>();
        all(FACE_LINE, document).forEach(line -> due.add(line.group(1).replaceAll("\\b(int|long) ", "")));
        check.holds("20 calls in the document", due.size() == 20);
        same("calls", due, firstGroups(CALL_ROW, readme));
    }

    private static void sameRefusalsAsDocument(String readme, String document) {
        Set<String> due = new TreeSet<>();
        all(FACE_LINE, document).forEach(
            line -> due.addAll(Set.of(line.group(2).replace("java.lang.", "").split(", "))));
        check.holds("exceptions in the document", !due.isEmpty());
        same("exceptions", due, firstGroups(REFUSAL_ROW, readme));
    }

    private static void everyTestIsNamed(String readme) throws IOException {
        Set<String> due;
        try (Stream<Path> files = Files.list(TESTS)) {
            due = files.map(file -> file.getFileName().toString()).filter(name -> name.endsWith("Test.java"))
                .map(name -> name.replace(".java", "")).collect(Collectors.toCollection(TreeSet::new));
        }
        check.holds("tests in " + TESTS, !due.isEmpty());
        same("tests", due, firstGroups(NAMED_TEST, readme));
    }

    private static void same(String what, Set<String> due, Set<String> got) {
        check.holds("README.md names the " + what + " " + due + ", it has " + got, due.equals(got));
    }

    private static Set<String> firstGroups(Pattern pattern, String text) {
        return all(pattern, text).map(found -> found.group(1)).collect(Collectors.toCollection(TreeSet::new));
    }

    private static Stream<MatchResult> all(Pattern pattern, String text) {
        return pattern.matcher(text).results();
    }
}
