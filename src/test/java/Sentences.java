import java.io.IOException;
import java.nio.charset.StandardCharsets;
import java.nio.file.Files;
import java.nio.file.Path;
import java.util.Map;
import java.util.Set;
import java.util.TreeMap;
import java.util.TreeSet;

/** The document, part by part: a test tells which sentence it is for, and that must stand there. */
final class Sentences {
    private static final Path DOCUMENT = Path.of("../shared/DOC.md");
    private static final String[] TERMS = {"I", "II", "III", "IV"};
    private static final int PROMISES = 24;
    private static final Map<String, String> PARTS = new TreeMap<>();
    private static final Set<String> TESTED = new TreeSet<>();

    private Sentences() {
    }

    static void load() throws IOException {
        String text = plain(Files.readString(DOCUMENT, StandardCharsets.UTF_8));
        for (int i = 0; i < TERMS.length; i++) {
            String next = i + 1 < TERMS.length ? " " + TERMS[i + 1] + ". " : " The constants: ";
            PARTS.put("Terms " + TERMS[i], between(text, " " + TERMS[i] + ". ", next));
        }
        for (int n = 1; n <= PROMISES; n++) {
            PARTS.put("Promise " + n, between(text, " ## Promise " + n + ": ", " ## "));
        }
        PARTS.put("What it is", between(text, " ## What it is ", " ## "));
        PARTS.put("The constants", between(text, " The constants: ", " Ahead of the calls "));
    }

    /** The answers from here on are about this sentence. */
    static void of(String part, String words) {
        Check.about(part + ", \"" + words + "\"");
        Check.due("the document has it there", PARTS.getOrDefault(part, "").contains(plain(words)), true);
        TESTED.add(part);
    }

    static void dueAllParts() {
        Check.about("the document");
        for (String part : PARTS.keySet()) {
            Check.due(part + " has a test", TESTED.contains(part), true);
        }
    }

    private static String between(String text, String from, String to) {
        int begin = text.indexOf(from);
        int end = begin < 0 ? -1 : text.indexOf(to, begin + from.length());
        return end < 0 ? "" : text.substring(begin + from.length(), end);
    }

    private static String plain(String text) {
        return text.replaceAll("\\s+", " ").trim();
    }
}
