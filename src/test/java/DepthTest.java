import java.io.PrintWriter;
import java.io.StringWriter;
import java.nio.file.Files;
import java.nio.file.Path;
import java.util.HashMap;
import java.util.HashSet;
import java.util.Map;
import java.util.Set;
import java.util.TreeSet;
import java.util.regex.Matcher;
import java.util.regex.Pattern;
import java.util.spi.ToolProvider;

/** Rules 4, 8 and 11 of ../shared/LANGUAGE.md: the library's methods, no recursion, calls at most eight deep. */
final class DepthTest {
    private static final Pattern HEAD = Pattern.compile("^  (?! )(?:.* )?([\\w$.]+)\\((.*)\\)(?: throws .*)?;$");
    private static final Pattern CALL = Pattern.compile("// (?:Interface)?Method (\\S+):\\((\\S*)\\)");
    private static final Pattern PARAMETER = Pattern.compile("\\[*(?:L[^;]+;|[BCDFIJSZ])");
    private static final Set<String> LIBRARY = Set.of(
            "Math.abs", "Math.max", "Math.min", "String.<init>", "String.charAt", "String.equals", "String.length",
            "String.toCharArray", "System.arraycopy", "Arrays.copyOf", "Arrays.fill", "Object.<init>",
            "IllegalArgumentException.<init>", "IllegalStateException.<init>", "IndexOutOfBoundsException.<init>");

    private static final Map<String, Set<String>> CALLS = new HashMap<>();
    private static final Map<String, Integer> DEPTHS = new HashMap<>();

    public static void main(String[] args) throws Exception {
        Path classes = Path.of(TranslationCatalog.class.getProtectionDomain().getCodeSource().getLocation().toURI());
        ToolProvider javap = ToolProvider.findFirst("javap").orElse(null);
        if (javap == null) {
            System.out.println("no javap here: nothing looked at");
            return;
        }
        try (var files = Files.list(classes)) {
            for (Path file : files.filter(f -> f.getFileName().toString().startsWith("TranslationCatalog")).toList()) {
                StringWriter text = new StringWriter();
                PrintWriter out = new PrintWriter(text);
                javap.run(out, out, "-c", "-p", file.toString());
                read(file.getFileName().toString().replace(".class", ""), text.toString());
            }
        }
        Catalog.same("methods found", 1, CALLS.size() > 200 ? 1 : 0);
        for (String method : new TreeSet<>(CALLS.keySet())) {
            Catalog.same("depth of " + method + " is " + depth(method, new HashSet<>()), 1,
                    depth(method, new HashSet<>()) <= 8 ? 1 : 0);
        }
        Catalog.end();
    }

    private static void read(String owner, String text) {
        String current = "";
        for (String line : text.split("\n")) {
            Matcher head = HEAD.matcher(line);
            if (head.matches()) {
                String name = head.group(1).replace('.', '$').equals(owner) ? "<init>" : head.group(1);
                int count = head.group(2).isBlank() ? 0 : head.group(2).split(",").length;
                current = owner + "." + name + "/" + count;
                CALLS.putIfAbsent(current, new TreeSet<>());
            }
            Matcher call = CALL.matcher(line);
            if (call.find()) {
                note(owner, current, call);
            }
        }
    }

    private static void note(String owner, String current, Matcher call) {
        String name = call.group(1).replace("\"", "");
        name = name.contains(".") ? name : owner + "." + name;
        if (name.startsWith("TranslationCatalog")) {
            int count = (int) PARAMETER.matcher(call.group(2)).results().count();
            CALLS.get(current).add(name + "/" + count);
        } else if (!name.endsWith(";.clone") && !name.endsWith("I.clone")) {
            String brief = name.substring(name.lastIndexOf('/') + 1);
            Catalog.same("library's " + name, 1, LIBRARY.contains(brief) ? 1 : 0);
        }
    }

    /** Methods of one class with one name and as many parameters are taken for one. */
    private static int depth(String method, Set<String> open) {
        if (DEPTHS.containsKey(method)) {
            return DEPTHS.get(method);
        }
        Catalog.same("recursion of " + method, 1, open.add(method) ? 1 : 0);
        Catalog.same("known: " + method, 1, CALLS.containsKey(method) ? 1 : 0);
        int deepest = 0;
        for (String called : CALLS.getOrDefault(method, Set.of())) {
            deepest = Math.max(deepest, depth(called, new HashSet<>(open)));
        }
        DEPTHS.put(method, deepest + 1);
        return deepest + 1;
    }
}
