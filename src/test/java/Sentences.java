import java.io.IOException;
import java.nio.file.Files;
import java.nio.file.Path;
import java.util.Map;
import java.util.TreeMap;
import java.util.regex.Matcher;
import java.util.regex.Pattern;

/** Ties each test to the words of the document that it is about, and finds words without a test. */
final class Sentences {
    private static final Path DOCUMENT = Path.of("../shared/DOC.md");
    private static final Pattern SECTION = Pattern.compile("(?ms)^## ([^:\\n]+)[^\\n]*\\n(.*?)(?=^## |\\z)");
    private static final String WHAT_IT_IS = "What it is";
    private static final String TERMS = "Terms";
    private static final Pattern FACE = Pattern.compile("`[^`]*`:");

    final Check check = new Check();

    // The words of a section that no test has named so far.
    private final Map<String, String> untested = new TreeMap<>();

    Sentences() throws IOException {
        Matcher section = SECTION.matcher(Files.readString(DOCUMENT));
        while (section.find()) {
            String heading = section.group(1).strip();
            if (heading.equals(WHAT_IT_IS) || heading.equals(TERMS) || heading.startsWith("Promise ")) {
                untested.put(heading, plain(FACE.matcher(section.group(2)).replaceAll("")));
            }
        }
    }

    void whatItIs(String words, Runnable test) {
        about(WHAT_IT_IS, words, test);
    }

    void terms(String words, Runnable test) {
        about(TERMS, words, test);
    }

    void promise(int number, String words, Runnable test) {
        about("Promise " + number, words, test);
    }

    /** To be the last call: each word of these sections has had its test. */
    void end() {
        check.holds("what it is, terms and 21 promises in the document", untested.size() == 23);
        for (Map.Entry<String, String> section : untested.entrySet()) {
            String left = section.getValue();
            check.holds(section.getKey() + ": no words without a test: " + left, !left.matches(".*\\w.*"));
        }
        check.end();
    }

    private void about(String heading, String words, Runnable test) {
        String left = untested.getOrDefault(heading, "");
        int start = left.indexOf(plain(words));
        check.holds(heading + " says: " + words, start >= 0);
        if (start >= 0) {
            // A gap stays where the words stood, so that no later quotation reaches across it.
            untested.put(heading, left.substring(0, start) + "|" + left.substring(start + plain(words).length()));
        }
        int wrongBefore = check.wrong();
        int askedBefore = check.asked();
        try {
            test.run();
        } catch (RuntimeException e) {
            check.holds(heading + ", " + words + " ended with " + e, false);
        }
        check.holds(heading + ", asked nothing: " + words, check.asked() > askedBefore);
        if (check.wrong() > wrongBefore) {
            System.out.println("  that is about " + heading + ": " + words);
        }
    }

    private static String plain(String text) {
        return text.replaceAll("\\s+", " ").strip();
    }
}
