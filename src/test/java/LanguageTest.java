import java.io.IOException;
import java.lang.reflect.Method;
import java.lang.reflect.Modifier;
import java.nio.file.Files;
import java.nio.file.Path;
import java.util.ArrayList;
import java.util.Arrays;
import java.util.List;
import java.util.Set;
import java.util.TreeSet;
import java.util.regex.Matcher;
import java.util.regex.Pattern;

/** The rules of ../shared/LANGUAGE.md that can be seen from the text or the members of the class. */
final class LanguageTest {
    private static final Path SOURCE = Path.of("src/main/java/TranslationCatalog.java");
    private static final Path DOCUMENT = Path.of("../shared/DOC.md");
    private static final Pattern METHOD = Pattern.compile(
            "(?m)^( +)(?:public |private )?(?:static )?(?:final )?[\\w\\[\\]]+(?: \\w+)?\\(([^)]*)\\)[^;{]*\\{$");

    public static void main(String[] args) throws IOException {
        String text = Files.readString(SOURCE);
        face(Files.readString(DOCUMENT));
        names();
        types();
        words(text);
        exceptions(text);
        loops(text);
        sizes(text);
        Catalog.end();
    }

    private static String described(Method method) {
        StringBuilder text = new StringBuilder(method.getReturnType().getName()).append(' ').append(method.getName());
        for (Class<?> type : method.getParameterTypes()) {
            text.append(' ').append(type.getName());
        }
        text.append(" throws");
        for (Class<?> type : method.getExceptionTypes()) {
            text.append(' ').append(type.getSimpleName());
        }
        return text.toString();
    }

    /** Rule 1: the public members are those of the document, and there are no others but private ones. */
    private static void face(String document) {
        Set<String> due = new TreeSet<>();
        Matcher m = Pattern.compile("(?m)^    public (int|long) (\\w+)\\(([^)]*)\\)(?: throws ([^;]*))?;").matcher(document);
        while (m.find()) {
            StringBuilder text = new StringBuilder(m.group(1)).append(' ').append(m.group(2));
            for (String parameter : m.group(3).split(", ")) {
                text.append(parameter.isEmpty() ? "" : " " + parameter.split(" ")[0]);
            }
            text.append(" throws");
            for (String name : m.group(4) == null ? new String[0] : m.group(4).split(", ")) {
                text.append(' ').append(name);
            }
            due.add(text.toString());
        }
        Set<String> got = new TreeSet<>();
        for (Method method : TranslationCatalog.class.getDeclaredMethods()) {
            if (Modifier.isPublic(method.getModifiers())) {
                got.add(described(method));
            } else {
                Catalog.same("private: " + method, 1, Modifier.isPrivate(method.getModifiers()) ? 1 : 0);
            }
        }
        Catalog.same("methods in the document", 47, due.size());
        Catalog.text("face", due.toString(), got.toString());
        for (java.lang.reflect.Field field : TranslationCatalog.class.getDeclaredFields()) {
            boolean constant = field.getName().equals("NONE");
            Catalog.same("field " + field, 1, Modifier.isPrivate(field.getModifiers()) != constant ? 1 : 0);
            boolean loose = Modifier.isStatic(field.getModifiers()) && !Modifier.isFinal(field.getModifiers());
            Catalog.same("static field " + field, 0, loose ? 1 : 0);
        }
        int modifiers = TranslationCatalog.class.getModifiers();
        Catalog.same("public and final", 1, Modifier.isPublic(modifiers) && Modifier.isFinal(modifiers) ? 1 : 0);
        Catalog.same("constructors", 1, TranslationCatalog.class.getDeclaredConstructors().length);
    }

    /** Rules 1, 6 and 11: no second method with a public name, no equals and the like, at most 7 parameters. */
    private static void names() {
        Set<String> taken = new TreeSet<>(List.of("equals", "hashCode", "toString"));
        for (Method method : TranslationCatalog.class.getDeclaredMethods()) {
            if (Modifier.isPublic(method.getModifiers())) {
                taken.add(method.getName());
            }
        }
        List<Class<?>> classes = new ArrayList<>(Arrays.asList(TranslationCatalog.class.getDeclaredClasses()));
        Catalog.same("classes", 1, classes.size() <= 11 ? 1 : 0);
        classes.add(TranslationCatalog.class);
        for (Class<?> each : classes) {
            int fields = 0;
            for (java.lang.reflect.Field field : each.getDeclaredFields()) {
                fields += Modifier.isStatic(field.getModifiers()) ? 0 : 1;
            }
            Catalog.same("fields of " + each, 1, fields <= 20 ? 1 : 0);
            for (Method method : each.getDeclaredMethods()) {
                boolean inside = each != TranslationCatalog.class || Modifier.isPrivate(method.getModifiers());
                Catalog.same("name of " + method, 0, inside && taken.contains(method.getName()) ? 1 : 0);
                Catalog.same("parameters of " + method, 1, method.getParameterCount() <= 7 ? 1 : 0);
            }
        }
    }

    /** Rules 2, 3 and 5: classes inside are static and not public, fields have the types that are left. */
    private static void types() {
        Set<String> constants = Set.of("int", "long", "boolean", "char", "class java.lang.String",
                "class [I", "class [J", "class [C", "class [B");
        List<Class<?>> classes = new ArrayList<>(List.of(TranslationCatalog.class.getDeclaredClasses()));
        for (Class<?> inside : classes) {
            int modifiers = inside.getModifiers();
            boolean hidden = !Modifier.isPublic(modifiers) && !Modifier.isProtected(modifiers);
            Catalog.same(inside + " is static and hidden", 1, hidden && Modifier.isStatic(modifiers) ? 1 : 0);
        }
        classes.add(TranslationCatalog.class);
        for (Class<?> each : classes) {
            for (java.lang.reflect.Field field : each.getDeclaredFields()) {
                boolean fixed = Modifier.isStatic(field.getModifiers());
                boolean right = fixed ? constants.contains(field.getType().toString()) : isAllowed(field.getType());
                Catalog.same("type of " + field, 1, right ? 1 : 0);
                Catalog.same("a static one is final: " + field, 1,
                        !fixed || Modifier.isFinal(field.getModifiers()) ? 1 : 0);
            }
            for (Method method : each.getDeclaredMethods()) {
                boolean right = method.getReturnType() == void.class || isAllowed(method.getReturnType());
                for (Class<?> parameter : method.getParameterTypes()) {
                    right &= isAllowed(parameter);
                }
                Catalog.same("types of " + method, 1, right ? 1 : 0);
            }
        }
    }

    private static boolean isAllowed(Class<?> type) {
        Class<?> element = type.isArray() ? type.getComponentType() : type;
        boolean own = element.getName().startsWith("TranslationCatalog$");
        return element.isPrimitive() || own || element == String.class && !type.isArray();
    }

    /** Rule 6: what is thrown, with a written text, and nothing in a constructor. */
    private static void exceptions(String text) {
        Matcher thrown = Pattern.compile("\\bthrow\\b[^;]*;").matcher(text);
        Pattern right = Pattern.compile(
                "throw new (IllegalState|IllegalArgument|IndexOutOfBounds)Exception\\(\"[^\"]+\"\\);");
        int count = 0;
        while (thrown.find()) {
            count++;
            Catalog.same(thrown.group(), 1, right.matcher(thrown.group()).matches() ? 1 : 0);
        }
        Catalog.same("throws found", 1, count > 20 ? 1 : 0);
        Matcher constructor = Pattern.compile("(?m)^( +)(?:public |private )?[A-Z]\\w+\\([^)]*\\) \\{$").matcher(text);
        while (constructor.find()) {
            int end = text.indexOf("\n" + constructor.group(1) + "}", constructor.end());
            String body = text.substring(constructor.end(), end);
            Catalog.same("no throw in " + constructor.group().trim(), 0, body.contains("throw ") ? 1 : 0);
        }
    }

    /** Rule 9: every loop has a bound in its head. */
    private static void loops(String text) {
        Matcher head = Pattern.compile("(?m)^ +(?:for|while) \\(.*").matcher(text);
        int count = 0;
        while (head.find()) {
            count++;
            boolean overRow = head.group().matches(" +for \\(\\w+ \\w+ : .*");
            boolean bound = overRow || head.group().matches(".*( < | <= | >= ).*");
            Catalog.same("bound of " + head.group().trim(), 1, bound ? 1 : 0);
        }
        Catalog.same("loops found", 1, count > 60 ? 1 : 0);
        Catalog.same("do", 0, text.contains(" do {") ? 1 : 0);
    }

    /** Words and signs that rules 2 to 10 and 13 leave out. */
    private static void words(String text) {
        String code = text.replaceAll("(?s)/\\*.*?\\*/", "").replaceAll("//.*", "");
        String[] wrong = {
            "\\bpackage\\b", "\\bprotected\\b", "\\bsynchronized\\b", "\\bassert\\b", "\\bfinally\\b", "\\bcatch\\b",
            "\\btry\\b", "\\bvolatile\\b", "\\btransient\\b", "\\bvar\\b", "->", "::", "Exact\\(", "\" \\+", "\\+ \"",
            "String\\[\\]", "getMessage", "static \\{", "System\\.(?!arraycopy)", "Thread", "Random", "@"};
        for (String each : wrong) {
            Matcher m = Pattern.compile(each).matcher(code);
            Catalog.text("not allowed", "", m.find() ? m.group() : "");
        }
        Matcher imports = Pattern.compile("(?m)^import (.*);").matcher(code);
        while (imports.find()) {
            Catalog.text("import", "java.util.Arrays", imports.group(1));
        }
        Catalog.same("signs", 0, text.chars().filter(c -> c > 126 || c < 32 && c != '\n').count());
    }

    /** Rule 11: short methods. */
    private static void sizes(String text) {
        Matcher m = METHOD.matcher(text);
        int methods = 0;
        while (m.find()) {
            methods++;
            String end = "\n" + m.group(1) + "}\n";
            String body = text.substring(m.start(), text.indexOf(end, m.start()));
            Catalog.same("length of " + m.group().trim(), 1, body.split("\n").length < 60 ? 1 : 0);
        }
        Catalog.same("methods found", 1, methods > 150 ? 1 : 0);
    }
}
