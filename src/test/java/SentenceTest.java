import java.io.IOException;
import java.nio.file.Files;
import java.nio.file.Path;
import java.util.ArrayList;
import java.util.LinkedHashMap;
import java.util.List;
import java.util.Map;
import java.util.regex.Matcher;
import java.util.regex.Pattern;
import java.util.stream.Stream;

/** Every sentence of the document's terms and promises is named by a test: no word of them is left over. */
final class SentenceTest {
    private static final Path TESTS = Path.of("src/test/java");
    private static final String TEXT = "\"((?:[^\"\\\\]|\\\\.)*)\"";
    private static final Pattern PART = Pattern.compile(TEXT);
    private static final Pattern QUOTE = Pattern.compile(
            "Catalog\\.(?:promise\\((\\d+)|term\\(" + TEXT + "),\\s*(" + TEXT + "(?:\\s*\\+\\s*" + TEXT + ")*)\\);");

    public static void main(String[] args) throws IOException {
        Map<String, List<String>> quotes = quotes();
        Catalog.same("promises and terms", 48 + 11, Document.sections().size());
        Document.sections().forEach((section, text) -> {
            String left = text;
            for (String quote : quotes.getOrDefault(section, List.of())) {
                // Spaces of the same length, so that other quotes are still found where they stand.
                left = hidden(left, text, quote);
            }
            Catalog.text("not named by a test, " + section, "", Document.even(left.replaceAll("\\W+", " ")));
        });
        Catalog.end();
    }

    /** What is left of a text when all places are hidden at which it has the quote. */
    private static String hidden(String left, String text, String quote) {
        StringBuilder rest = new StringBuilder(left);
        for (int at = text.indexOf(quote); at >= 0; at = text.indexOf(quote, at + 1)) {
            for (int i = 0; i < quote.length(); i++) {
                rest.setCharAt(at + i, ' ');
            }
        }
        return rest.toString();
    }

    private static Map<String, List<String>> quotes() throws IOException {
        Map<String, List<String>> found = new LinkedHashMap<>();
        try (Stream<Path> files = Files.list(TESTS)) {
            for (Path file : files.sorted().toList()) {
                Matcher m = QUOTE.matcher(Files.readString(file));
                while (m.find()) {
                    String section = m.group(1) != null ? "Promise " + m.group(1) : m.group(2);
                    found.computeIfAbsent(section, s -> new ArrayList<>()).add(joined(m.group(3)));
                }
            }
        }
        return found;
    }

    private static String joined(String parts) {
        StringBuilder text = new StringBuilder();
        Matcher m = PART.matcher(parts);
        while (m.find()) {
            text.append(m.group(1).replaceAll("\\\\(.)", "$1"));
        }
        return Document.even(text.toString());
    }
}
