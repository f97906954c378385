import java.io.IOException;
import java.lang.reflect.Method;
import java.lang.reflect.Modifier;
import java.nio.file.Files;
import java.nio.file.Path;
import java.util.Set;
import java.util.TreeSet;
import java.util.regex.Matcher;
import java.util.regex.Pattern;

/** The document's face, no more and no less, and those rules of the language that a text shows. */
public final class FaceTest {
    private static final Path DOCUMENT = Path.of("../shared/DOC.md");
    private static final Path SOURCE = Path.of("src/main/java/TypedHall.java");

    private static final Set<String> THROWN = Set.of("IllegalStateException", "IllegalArgumentException",
        "IndexOutOfBoundsException", "ArithmeticException", "UnsupportedOperationException",
        "NoSuchElementException", "RuntimeException");
    private static final Pattern FORBIDDEN = Pattern.compile(
        "->|::|\\b(try|catch|finally|synchronized|assert|package|protected|hashCode|toString|equals)\\b");

    private static final Check check = new Check();

    public static void main(String[] args) throws IOException {
        sameFaceAsDocument();
        sameWordsAsDocument();
        nothingElseIsVisible();
        nestedClassesStayInside();
        onlyListedThrows();
        onlyListedImports();
        noForbiddenWords();
        check.end();
    }

    private static void sameFaceAsDocument() throws IOException {
        String document = Files.readString(DOCUMENT);
        Matcher line = Pattern.compile("(?m)^    public (\\w+ \\w+\\(.*);$").matcher(document);
        Set<String> due = new TreeSet<>();
        while (line.find()) {
            due.add(line.group(1).replaceAll("(int|long) \\w+([,)])", "$1$2").replaceAll("java\\.lang\\.", ""));
        }
        Set<String> got = new TreeSet<>();
        for (Method method : TypedHall.class.getDeclaredMethods()) {
            if (Modifier.isPublic(method.getModifiers())) {
                got.add(signature(method));
            }
        }
        check.holds("20 methods in the document", due.size() == 20);
        check.holds("the methods " + due + ", there are " + got, due.equals(got));
        check.holds("one public constructor without parameters",
            TypedHall.class.getDeclaredConstructors().length == 1
                && TypedHall.class.getConstructors().length == 1
                && TypedHall.class.getConstructors()[0].getParameterCount() == 0);
    }

    /** The names of parameters, too, and how the exceptions are written. */
    private static void sameWordsAsDocument() throws IOException {
        String source = code().replaceAll("\\s+", " ");
        Matcher line = Pattern.compile("(?m)^(?:    )?(public .*?)( \\{|;)$").matcher(Files.readString(DOCUMENT));
        int lines = 0;
        while (line.find()) {
            lines++;
            check.holds("in the source: " + line.group(1), source.contains(" " + line.group(1) + " {"));
        }
        check.holds("the class, a constructor and 20 methods in the document", lines == 22);
    }

    private static String signature(Method method) {
        String plain = method.toString().replaceFirst("^public ", "").replace("TypedHall.", "");
        return plain.replaceAll("java\\.lang\\.", "").replace(",", ", ");
    }

    private static void nothingElseIsVisible() {
        int modifiers = TypedHall.class.getModifiers();
        check.holds("public and final", Modifier.isPublic(modifiers) && Modifier.isFinal(modifiers));
        Set<String> names = new TreeSet<>();
        for (Method method : TypedHall.class.getMethods()) {
            names.add(method.getName());
        }
        for (Method method : TypedHall.class.getDeclaredMethods()) {
            if (!Modifier.isPublic(method.getModifiers())) {
                check.holds("private: " + method, Modifier.isPrivate(method.getModifiers()));
                check.holds("a name of its own: " + method, !names.contains(method.getName()));
            }
        }
        for (var field : TypedHall.class.getDeclaredFields()) {
            boolean isStatic = Modifier.isStatic(field.getModifiers());
            check.holds("private: " + field, Modifier.isPrivate(field.getModifiers()));
            check.holds("final: " + field, !isStatic || Modifier.isFinal(field.getModifiers()));
        }
    }

    private static void nestedClassesStayInside() {
        for (Class<?> nested : TypedHall.class.getDeclaredClasses()) {
            int modifiers = nested.getModifiers();
            check.holds("static and not public: " + nested,
                Modifier.isStatic(modifiers) && !Modifier.isPublic(modifiers));
        }
        check.holds("at most twelve classes", TypedHall.class.getDeclaredClasses().length < 12);
    }

    private static void onlyListedThrows() throws IOException {
        Matcher thrown = Pattern.compile("\\bthrow\\b\\s*(.*)").matcher(code());
        while (thrown.find()) {
            Matcher made = Pattern.compile("new (\\w+)\\(\\);").matcher(thrown.group(1));
            check.holds("a listed exception: " + thrown.group(), made.matches() && THROWN.contains(made.group(1)));
        }
    }

    private static void onlyListedImports() throws IOException {
        Matcher imported = Pattern.compile("(?m)^import (.*);$").matcher(code());
        while (imported.find()) {
            check.holds("a listed import: " + imported.group(1),
                Set.of("java.util.Arrays", "java.util.List", "java.util.ArrayList").contains(imported.group(1)));
        }
    }

    private static void noForbiddenWords() throws IOException {
        Matcher word = FORBIDDEN.matcher(code());
        check.holds("no forbidden word", !word.find());
    }

    private static String code() throws IOException {
        return Files.readString(SOURCE).replaceAll("(?s)/\\*.*?\\*/", "").replaceAll("//.*", "");
    }
}
