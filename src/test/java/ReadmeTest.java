import java.io.IOException;
import java.lang.reflect.Method;
import java.net.URL;
import java.net.URLClassLoader;
import java.nio.file.Files;
import java.nio.file.Path;
import java.util.List;
import java.util.regex.Matcher;
import java.util.regex.Pattern;
import java.util.spi.ToolProvider;

/** The README's example compiles, and each answer that a comment there tells is the one that is got. */
final class ReadmeTest {
    private static final Path README = Path.of("README.md");
    private static final Pattern BLOCK = Pattern.compile("(?s)```java\\n(.*?)```");
    private static final Pattern NUMBER = Pattern.compile("(?m)^int (\\w+) = .*;\\s+// (-?\\d+)$");
    private static final Pattern TEXT = Pattern.compile("(?m)^String (\\w+) = .*;\\s+// (\".*\")$");
    private static final Pattern CALL_IN_TABLE = Pattern.compile("`(\\w+)`(?=[^|\\n]*\\|)");

    public static void main(String[] args) throws Exception {
        String readme = Files.readString(README);
        List<String> blocks = BLOCK.matcher(readme).results().map(m -> m.group(1)).toList();
        Catalog.same("blocks", 2, blocks.size());
        example(blocks.get(0), blocks.get(1));
        table(readme);
        Catalog.end();
    }

    private static void example(String methods, String statements) throws Exception {
        String looked = NUMBER.matcher(statements).replaceAll("$0\nnumber(\"$1\", $2, $1);");
        looked = TEXT.matcher(looked).replaceAll(m -> Matcher.quoteReplacement(
                m.group() + "\ntext(\"" + m.group(1) + "\", " + m.group(2) + ", " + m.group(1) + ");"));
        Catalog.same("answers", 18, looked.split("\n(?:number|text)\\(").length - 1);
        String source = "public final class Example {\n"
                + "static void number(String what, long due, long got) { report(what, \"\" + due, \"\" + got); }\n"
                + "static void text(String what, String due, String got) { report(what, due, got); }\n"
                + "static void report(String what, String due, String got) {\n"
                + "if (!due.equals(got)) { System.out.println(what + \": due is \" + due + \", got \" + got); wrong++; } }\n"
                + "private static int wrong = 0;\n"
                + methods + "public static int run() {\n" + looked + "return wrong;\n}\n}\n";
        Catalog.same("wrong answers in the README", 0, run(source));
    }

    private static long run(String source) throws Exception {
        Path place = Files.createTempDirectory("readme");
        try {
            Path file = place.resolve("Example.java");
            Files.writeString(file, source);
            ToolProvider javac = ToolProvider.findFirst("javac").orElseThrow();
            int result = javac.run(System.out, System.out,
                    "-cp", System.getProperty("java.class.path"), "-d", place.toString(), file.toString());
            if (result != 0) {
                return -1;
            }
            try (URLClassLoader loader = new URLClassLoader(new URL[] {place.toUri().toURL()})) {
                return (Integer) loader.loadClass("Example").getMethod("run").invoke(null);
            }
        } finally {
            remove(place);
        }
    }

    private static void remove(Path place) throws IOException {
        try (var files = Files.list(place)) {
            for (Path file : files.toList()) {
                Files.delete(file);
            }
        }
        Files.delete(place);
    }

    /** Each call of the face stands in the table of calls just once. */
    private static void table(String readme) {
        List<String> named = CALL_IN_TABLE.matcher(readme).results().map(m -> m.group(1)).toList();
        int calls = 0;
        for (Method method : TranslationCatalog.class.getDeclaredMethods()) {
            if (java.lang.reflect.Modifier.isPublic(method.getModifiers())) {
                calls++;
                Catalog.same(method.getName() + " in the table", 1, named.stream().filter(method.getName()::equals).count());
            }
        }
        Catalog.same("calls", 47, calls);
        Catalog.same("calls in the table", 47, named.size());
    }
}
