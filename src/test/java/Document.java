import java.io.IOException;
import java.io.UncheckedIOException;
import java.nio.file.Files;
import java.nio.file.Path;
import java.util.LinkedHashMap;
import java.util.Map;
import java.util.regex.Pattern;

/** The document's sections, with spaces and line ends made even. */
final class Document {
    private static final Path PLACE = Path.of("../shared/DOC.md");
    private static final Pattern SPACES = Pattern.compile("\\s+");
    private static final Pattern TERM = Pattern.compile("[A-Z][A-Z ,]+");
    // What is no sentence about what the class does: the face, and where its parts begin.
    private static final Pattern CALL = Pattern.compile("`[^`]*\\([^`]*\\)[^`]*`:");
    private static final Pattern PARAMETER = Pattern.compile("- `\\w+`:");
    private static final String PART = "Ahead of the calls ";

    private static Map<String, String> sections;

    private Document() {
    }

    static String even(String text) {
        return SPACES.matcher(text).replaceAll(" ").trim();
    }

    /** Each promise by "Promise 7", each term by its heading, as "THE PAD". */
    static synchronized Map<String, String> sections() {
        if (sections == null) {
            sections = read();
        }
        return sections;
    }

    private static Map<String, String> read() {
        Map<String, StringBuilder> found = new LinkedHashMap<>();
        String heading = "";
        boolean within = false;
        for (String line : lines()) {
            if (line.startsWith("#")) {
                within = line.startsWith("## Promise ") || line.equals("## Terms");
                heading = line.replaceFirst("## (Promise \\d+).*", "$1");
            } else if (TERM.matcher(line).matches()) {
                heading = line;
            } else if (within && !line.startsWith(PART) && !line.startsWith("```")) {
                String sentence = PARAMETER.matcher(CALL.matcher(line).replaceFirst("")).replaceFirst("");
                found.computeIfAbsent(heading, h -> new StringBuilder()).append(' ').append(sentence);
            }
        }
        Map<String, String> evened = new LinkedHashMap<>();
        found.forEach((h, text) -> evened.put(h, even(text.toString())));
        evened.values().removeIf(String::isEmpty);
        return evened;
    }

    private static Iterable<String> lines() {
        try {
            return Files.readAllLines(PLACE);
        } catch (IOException e) {
            throw new UncheckedIOException(e);
        }
    }
}
