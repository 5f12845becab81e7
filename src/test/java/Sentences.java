import java.io.IOException;
import java.nio.file.Files;
import java.nio.file.Path;
import java.util.LinkedHashMap;
import java.util.Map;
import java.util.regex.Matcher;
import java.util.regex.Pattern;

/**
 * The document's sentences, and which of them a test has quoted. A run begins with a quote, so that a sentence
 * that no test knows of, or that the document says no longer, is told.
 */
final class Sentences {
    private static final Path DOCUMENT = Path.of("../shared/DOC.md");

    private final Checks checks;
    private final Map<String, String> texts = new LinkedHashMap<>();
    private final Map<String, boolean[]> quoted = new LinkedHashMap<>();

    Sentences(Checks checks) throws IOException {
        this.checks = checks;
        if (!Files.exists(DOCUMENT)) {
            System.out.println("no document at " + DOCUMENT + ": quotes are not looked up");
            return;
        }
        String all = Files.readString(DOCUMENT);
        Matcher section = Pattern.compile("(?ms)^## (.*?)$(.*?)(?=^## |\\z)").matcher(all);
        while (section.find()) {
            String name = section.group(1).replaceAll(":.*", "").trim();
            String text = plain(section.group(2));
            texts.put(name, text);
            quoted.put(name, new boolean[text.length()]);
        }
    }

    /** Without the face that stands ahead of a promise, and without what only sets the text. */
    private static String plain(String text) {
        return text.replaceAll("```text|```", " ").replaceAll("`[^`]*`:", " ").replaceAll("==== \\d\\.", " ")
            .replaceAll("\\s+", " ").trim();
    }

    Run run(String section, String quote) {
        if (!texts.isEmpty()) {
            int found = mark(section, quote);
            checks.same(section + " says: " + quote, 1, Math.min(1, found));
        }
        return new Run(checks, section + ", " + quote);
    }

    private int mark(String section, String quote) {
        String text = texts.getOrDefault(section, "");
        int found = 0;
        for (int at = text.indexOf(quote); at >= 0; at = text.indexOf(quote, at + 1)) {
            java.util.Arrays.fill(quoted.get(section), at, at + quote.length(), true);
            found++;
        }
        return found;
    }

    /** What the terms, their parts and the promises say is quoted to the last word. */
    void close() {
        for (Map.Entry<String, String> entry : texts.entrySet()) {
            String name = entry.getKey();
            if (name.equals("Terms") || name.startsWith("Promise ")) {
                String left = unquoted(entry.getValue(), quoted.get(name));
                checks.same(name + ", no test quotes: " + left, 1, left.isEmpty() ? 1 : 0);
            }
        }
    }

    private static String unquoted(String text, boolean[] marks) {
        StringBuilder left = new StringBuilder();
        for (int i = 0; i < marks.length; i++) {
            left.append(marks[i] ? ' ' : text.charAt(i));
        }
        return left.toString().replaceAll("\\s+", " ").trim();
    }
}
