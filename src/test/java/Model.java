import java.math.BigInteger;
import java.util.ArrayList;
import java.util.Arrays;
import java.util.Comparator;
import java.util.HashMap;
import java.util.List;
import java.util.Map;
import java.util.TreeMap;
import java.util.regex.Matcher;
import java.util.regex.Pattern;

/**
 * The document once more, written another way (regular expressions, lists, deep copies), for runs
 * in which its answers are compared with those of the class. Its methods bear the class's names.
 */
final class Model {
    static final String LITERAL = "[\\x20-\\x7a\\x7e]|\\{\\{|\\}\\}";
    static final String PLAIN = "(?:" + LITERAL + "|\\{[0-9]\\})+";
    static final String SOURCE =
            "(?:" + LITERAL + "|\\{[0-9](?::[ds](?:[1-9]|[1-3][0-9]|40))?\\})+";
    static final Pattern PLAIN_PATTERN = Pattern.compile(PLAIN);
    static final Pattern SOURCE_PATTERN = Pattern.compile(SOURCE);
    static final Pattern LINE = Pattern.compile("([a-z0-9]{0,8})\\|(" + SOURCE + ")\\|((?:" + SOURCE
            + ")?)\\|((?:[1-9]|[1-9][0-9]|1[0-9][0-9]|200)?)");
    static final Pattern SYMBOL = Pattern.compile("\\{\\{|\\}\\}|\\{([0-9])(?::([ds])([0-9]+))?\\}|.");
    static final Pattern TOKEN = Pattern.compile("[a-z]+|[0-9]+|[;:%=,]|!=|\\.\\.");
    static final List<String> NAMES = List.of("zero", "one", "two", "few", "many", "other");

    /** A literal character, or a placeholder. */
    record Symbol(char literal, int index, int type, int width, int start) {
        boolean isPlaceholder() {
            return index >= 0;
        }
    }

    record Relation(int modulus, boolean negated, List<int[]> ranges) {
        boolean holds(int n) {
            int value = modulus == 0 ? n : n % modulus;
            return ranges.stream().anyMatch(r -> r[0] <= value && value <= r[1]) != negated;
        }
    }

    record Rule(int category, List<List<Relation>> groups) {
        boolean holds(int n) {
            return groups.stream().anyMatch(group -> group.stream().allMatch(r -> r.holds(n)));
        }
    }

    static final class Locale {
        int parent;
        int separator;
        int size = 3;
        List<Rule> rules = new ArrayList<>();

        Locale copy() {
            Locale copy = new Locale();
            copy.parent = parent;
            copy.separator = separator;
            copy.size = size;
            copy.rules = rules;
            return copy;
        }

        int category(int n) {
            for (Rule rule : rules) {
                if (rule.holds(n)) {
                    return rule.category();
                }
            }
            return 5;
        }

        int covered(int category) {
            int count = 0;
            for (int n = 0; n <= 999; n++) {
                count += category(n) == category ? 1 : 0;
            }
            return count;
        }

        List<Integer> categories() {
            List<Integer> all = new ArrayList<>();
            rules.forEach(rule -> all.add(rule.category()));
            all.add(5);
            return all;
        }
    }

    static final class Message {
        String context;
        String source;
        String plural;
        int limit;
        int origin = -1;
        /** By locale and category. */
        Map<List<Integer>, String> forms = new HashMap<>();
        boolean[] marks = new boolean[4];

        Message copy() {
            Message copy = new Message();
            copy.context = context;
            copy.source = source;
            copy.plural = plural;
            copy.limit = limit;
            copy.origin = origin;
            copy.forms = new HashMap<>(forms);
            copy.marks = marks.clone();
            return copy;
        }

        String key() {
            return context + "|" + source + "|" + (plural == null ? "" : plural);
        }

        /** Index to 100 * type + width. */
        Map<Integer, Integer> placeholders() {
            Map<Integer, Integer> found = new TreeMap<>();
            for (Symbol symbol : symbols(plural == null ? source : plural)) {
                if (symbol.isPlaceholder()) {
                    found.put(symbol.index(), described(symbol.index()));
                }
            }
            return found;
        }

        int described(int index) {
            for (Symbol symbol : symbols(source + (plural == null ? "" : plural))) {
                if (symbol.index() == index && symbol.width() > 0) {
                    return 100 * symbol.type() + symbol.width();
                }
            }
            return 10;
        }

        /** The pattern for a comparison. */
        List<String> compared(String pattern) {
            List<String> all = new ArrayList<>();
            for (Symbol s : symbols(pattern)) {
                all.add(s.isPlaceholder() ? "{" + s.index() + "/" + described(s.index()) / 100 : "" + s.literal());
            }
            return all;
        }
    }

    String pad = "";
    List<Locale> locales = new ArrayList<>();
    List<Message> messages = new ArrayList<>();
    List<Message> obsolete = new ArrayList<>();
    List<Message> staged = new ArrayList<>();
    int[] widths = new int[127];
    int threshold = 30;
    int[] merged = new int[5];
    Object[] arguments = new Object[10];
    String shown = "";
    int shownLocale = -1;
    List<Model> saved = new ArrayList<>();

    Model() {
    }

    static Model atFirst() {
        Model m = new Model();
        Arrays.fill(m.widths, 1);
        m.locales.add(new Locale());
        m.locales.add(new Locale());
        m.locales.get(0).parent = -1;
        m.locales.get(0).separator = 46;
        m.locales.get(1).separator = 32;
        m.locales.get(0).rules = new RuleParser("one: n = 1").parse();
        m.locales.get(1).rules = new RuleParser(
                "one: n % 10 = 1 and n % 100 != 11; few: n % 10 = 2..4 and n % 100 != 12..14").parse();
        m.pad = "|Quit||8\n|{0:d6} file|{0:d6} files|16\nmenu|Open {1:s9}||";
        m.messages.addAll(m.padMessages());
        m.pad = "|Save {0:s9}||";
        m.obsolete.addAll(m.padMessages());
        m.pad = "";
        m.messages.get(0).forms.put(List.of(0, 5), "Ende");
        m.messages.get(1).forms.put(List.of(0, 1), "{0} Datei");
        m.messages.get(1).forms.put(List.of(0, 5), "{0} Dateien");
        m.messages.get(1).forms.put(List.of(1, 1), "{0} fajl");
        m.messages.get(1).forms.put(List.of(1, 3), "{0} fajla");
        m.messages.get(2).forms.put(List.of(0, 5), "{1} laden");
        m.obsolete.get(0).forms.put(List.of(0, 5), "{0} sichern");
        m.arguments[1] = "log";
        return m;
    }

    static List<Symbol> symbols(String pattern) {
        List<Symbol> all = new ArrayList<>();
        Matcher m = SYMBOL.matcher(pattern);
        while (m.find()) {
            if (m.group(1) == null) {
                all.add(new Symbol(m.group().charAt(0), -1, 0, 0, m.start()));
            } else {
                int type = "s".equals(m.group(2)) ? 1 : 0;
                int width = m.group(3) == null ? 0 : Integer.parseInt(m.group(3));
                all.add(new Symbol(' ', Integer.parseInt(m.group(1)), type, width, m.start()));
            }
        }
        return all;
    }

    // ---- the pad

    int type(int c) {
        require(c == 10 || c >= 32 && c <= 126, "argument");
        require(pad.length() < 240, "state");
        pad += (char) c;
        return pad.length();
    }

    int clearPad() {
        int before = pad.length();
        pad = "";
        return before;
    }

    int padFault(int kind) {
        require(kind >= 0 && kind <= 3, "argument");
        if (kind == 2) {
            return rulesFault(pad);
        }
        return kind == 3 ? templateFault() : patternFault(kind == 0 ? PLAIN_PATTERN : SOURCE_PATTERN, pad);
    }

    /** The first character with which no text can begin that matches. */
    static int dead(Pattern pattern, String text) {
        for (int i = 0; i < text.length(); i++) {
            Matcher m = pattern.matcher(text.substring(0, i + 1));
            if (!m.matches() && !m.hitEnd()) {
                return i;
            }
        }
        return pattern.matcher(text).matches() ? -1 : text.length();
    }

    static int patternFault(Pattern pattern, String text) {
        int fault = dead(pattern, text.substring(0, Math.min(60, text.length())));
        return (fault == -1 || fault == 60) && text.length() > 60 ? 60 : fault;
    }

    static int rulesFault(String text) {
        try {
            new RuleParser(text).parse();
            return -1;
        } catch (Fault f) {
            return f.index;
        }
    }

    static final class Fault extends RuntimeException {
        private static final long serialVersionUID = 1;
        final int index;

        Fault(int index) {
            this.index = index;
        }
    }

    /** By recursive descent. */
    static final class RuleParser {
        final String text;
        int at = 0;
        int start;
        String token;
        int relations = 0;
        List<Integer> named = new ArrayList<>();

        RuleParser(String text) {
            this.text = text;
            next();
        }

        /** Goes to the next token; "" behind the last one, "?" if none begins here. */
        void next() {
            while (at < text.length() && text.charAt(at) == ' ') {
                at++;
            }
            start = at;
            Matcher m = TOKEN.matcher(text);
            m.region(at, text.length());
            if (at == text.length()) {
                token = "";
            } else if (m.lookingAt()) {
                token = m.group();
                at = m.end();
            } else {
                token = "?";
            }
        }

        void eat(boolean allowed) {
            if (!allowed) {
                throw new Fault(start);
            }
            next();
        }

        List<Rule> parse() {
            List<Rule> rules = new ArrayList<>();
            if (token.isEmpty()) {
                return rules;
            }
            rules.add(rule());
            while (token.equals(";")) {
                next();
                rules.add(rule());
            }
            if (!token.isEmpty()) {
                throw new Fault(start);
            }
            return rules;
        }

        Rule rule() {
            int category = NAMES.subList(0, 5).indexOf(token);
            eat(category >= 0 && !named.contains(category));
            named.add(category);
            eat(token.equals(":"));
            List<List<Relation>> groups = new ArrayList<>();
            groups.add(group());
            while (token.equals("or")) {
                next();
                groups.add(group());
            }
            return new Rule(category, groups);
        }

        List<Relation> group() {
            List<Relation> group = new ArrayList<>();
            group.add(relation());
            while (token.equals("and")) {
                next();
                group.add(relation());
            }
            return group;
        }

        Relation relation() {
            relations++;
            eat(token.equals("n") && relations <= 12);
            int modulus = 0;
            if (token.equals("%")) {
                next();
                modulus = number(1);
            }
            boolean negated = token.equals("!=");
            eat(negated || token.equals("="));
            List<int[]> ranges = new ArrayList<>();
            ranges.add(range());
            while (token.equals(",")) {
                next();
                ranges.add(range());
            }
            return new Relation(modulus, negated, ranges);
        }

        int[] range() {
            int first = number(0);
            int last = first;
            if (token.equals("..")) {
                next();
                last = number(first);
            }
            return new int[] {first, last};
        }

        int number(int least) {
            boolean good = token.matches("0|[1-9][0-9]{0,3}") && Integer.parseInt(token) >= least;
            int value = good ? Integer.parseInt(token) : 0;
            eat(good);
            return value;
        }
    }

    int templateFault() {
        List<String> keys = new ArrayList<>();
        staged.forEach(message -> keys.add(message.key()));
        int start = 0;
        for (String line : pad.split("\n", -1)) {
            int fault = lineFault(line, keys);
            if (fault != -1) {
                return start + fault;
            }
            keys.add(line.substring(0, line.lastIndexOf('|')));
            start += line.length() + 1;
        }
        return -1;
    }

    static int lineFault(String line, List<String> keys) {
        int fault = dead(LINE, line);
        fault = fault == -1 ? line.length() + 1 : fault;
        // A pattern's character 60, if nothing before it is at fault.
        int begin = 0;
        for (int part = 0; part < 2; part++) {
            begin = line.indexOf('|', begin) + 1;
            if (begin == 0) {
                break;
            }
            if (begin + 60 < line.length() && line.indexOf('|', begin) != begin + 60
                    && (line.indexOf('|', begin) == -1 || line.indexOf('|', begin) > begin + 60)) {
                fault = Math.min(fault, begin + 60);
            }
        }
        // Declarations that are complete before that.
        Map<Integer, Integer> declared = new HashMap<>();
        for (Symbol s : symbols(line.substring(0, Math.min(fault, line.length())))) {
            int described = 100 * s.type() + s.width();
            if (s.width() > 0 && declared.getOrDefault(s.index(), described) != described) {
                return s.start();
            }
            if (s.width() > 0) {
                declared.put(s.index(), described);
            }
        }
        if (fault <= line.length()) {
            return fault;
        }
        Matcher m = LINE.matcher(line);
        m.matches();
        if (!m.group(3).isEmpty()) {
            for (Symbol s : symbols(m.group(2))) {
                if (s.isPlaceholder() && symbols(m.group(3)).stream().noneMatch(o -> o.index() == s.index())) {
                    return m.start(2) + s.start();
                }
            }
            for (int group = 2; group <= 3; group++) {
                for (Symbol s : symbols(m.group(group))) {
                    if (s.index() == 0 && s.type() == 1) {
                        return m.start(group) + s.start();
                    }
                }
            }
        }
        return keys.size() >= 24 || keys.contains(line.substring(0, m.end(3))) ? 0 : -1;
    }

    List<Message> padMessages() {
        List<Message> all = new ArrayList<>();
        for (String line : pad.split("\n", -1)) {
            Matcher m = LINE.matcher(line);
            m.matches();
            Message message = new Message();
            message.context = m.group(1);
            message.source = m.group(2);
            message.plural = m.group(3).isEmpty() ? null : m.group(3);
            message.limit = m.group(4).isEmpty() ? -1 : Integer.parseInt(m.group(4));
            all.add(message);
        }
        return all;
    }

    // ---- locales

    int addLocale(int parent) {
        require(parent >= -1 && parent < locales.size(), "bounds");
        require(locales.size() < 4, "state");
        save();
        Locale locale = new Locale();
        locale.parent = parent;
        locales.add(locale);
        return locales.size() - 1;
    }

    int setParent(int locale, int parent) {
        requireLocale(locale);
        require(parent >= -1 && parent < locales.size(), "bounds");
        for (int at = parent; at != -1; at = locales.get(at).parent) {
            require(at != locale, "argument");
        }
        save();
        int before = locales.get(locale).parent;
        locales.get(locale).parent = parent;
        return before;
    }

    int setRules(int locale) {
        requireLocale(locale);
        require(rulesFault(pad) == -1, "argument");
        save();
        Locale changed = locales.get(locale);
        changed.rules = new RuleParser(pad).parse();
        List<Message> all = new ArrayList<>(messages);
        all.addAll(obsolete);
        for (Message message : all) {
            if (message.plural != null) {
                message.forms.keySet().removeIf(
                        k -> k.get(0) == locale && !changed.categories().contains(k.get(1)));
                message.marks[locale] &= forms(locale, message) > 0;
            }
        }
        return changed.rules.size();
    }

    int setGrouping(int locale, int separator, int size) {
        requireLocale(locale);
        boolean good = separator == 0 || separator >= 32 && separator <= 126 && separator != '-'
                && !Character.isDigit(separator);
        require(good && size >= 1 && size <= 4, "argument");
        save();
        Locale changed = locales.get(locale);
        int before = 10 * changed.separator + changed.size;
        changed.separator = separator;
        changed.size = size;
        return before;
    }

    int locales() {
        return locales.size();
    }

    int parent(int locale) {
        requireLocale(locale);
        return locales.get(locale).parent;
    }

    int category(int locale, int n) {
        requireLocale(locale);
        require(n >= 0, "argument");
        return locales.get(locale).category(n);
    }

    int categoryAt(int locale, int i) {
        requireLocale(locale);
        List<Integer> all = locales.get(locale).categories();
        return i >= 0 && i < all.size() ? all.get(i) : -1;
    }

    int covered(int locale, int category) {
        requireLocale(locale);
        requireCategory(category);
        return locales.get(locale).covered(category);
    }

    // ---- widths, threshold

    int setWidth(int c, int width) {
        require(c >= 32 && c <= 126 && width >= 0 && width <= 2, "argument");
        save();
        int before = widths[c];
        widths[c] = width;
        return before;
    }

    int setThreshold(int percent) {
        require(percent >= 0 && percent <= 60, "argument");
        save();
        int before = threshold;
        threshold = percent;
        return before;
    }

    // ---- templates

    int stage() {
        require(templateFault() == -1, "argument");
        staged.addAll(padMessages());
        return staged.size();
    }

    int unstage() {
        int before = staged.size();
        staged.clear();
        return before;
    }

    int merge() {
        require(!staged.isEmpty(), "state");
        save();
        List<Message> pool = new ArrayList<>(messages);
        pool.addAll(obsolete);
        List<Message> used = new ArrayList<>();
        merged = new int[5];
        for (Message fresh : staged) {
            for (Message old : pool) {
                if (fresh.origin == -1 && !used.contains(old) && old.key().equals(fresh.key())) {
                    fresh.origin = pool.indexOf(old);
                    fresh.forms = new HashMap<>(old.forms);
                    fresh.marks = old.marks.clone();
                    used.add(old);
                    merged[0]++;
                }
            }
        }
        while (takeCheapestPair(pool, used)) {
            merged[1]++;
        }
        merged[2] = staged.size() - merged[0] - merged[1];
        obsolete.removeIf(used::contains);
        for (Message old : messages) {
            if (!used.contains(old) && !old.forms.isEmpty()) {
                obsolete.add(old);
                merged[3]++;
            }
        }
        for (; obsolete.size() > 16; merged[4]++) {
            obsolete.remove(0);
        }
        messages = staged;
        staged = new ArrayList<>();
        return messages.size();
    }

    boolean takeCheapestPair(List<Message> pool, List<Message> used) {
        Message bestFresh = null;
        Message bestOld = null;
        for (Message fresh : staged) {
            for (Message old : pool) {
                if (fresh.origin == -1 && !used.contains(old) && !old.forms.isEmpty() && similar(fresh, old)
                        && (bestFresh == null || cost(fresh, old) < cost(bestFresh, bestOld))) {
                    bestFresh = fresh;
                    bestOld = old;
                }
            }
        }
        if (bestFresh == null) {
            return false;
        }
        used.add(bestOld);
        bestFresh.origin = pool.indexOf(bestOld);
        for (int locale = 0; locale < locales.size(); locale++) {
            Map<List<Integer>, String> suitable = suitable(locale, bestFresh, bestOld);
            bestFresh.forms.putAll(suitable);
            bestFresh.marks[locale] = !suitable.isEmpty();
        }
        return true;
    }

    Map<List<Integer>, String> suitable(int locale, Message message, Message from) {
        Map<List<Integer>, String> found = new HashMap<>();
        from.forms.forEach((k, form) -> {
            if (k.get(0) == locale && categories(locale, message).contains(k.get(1))
                    && misfit(locale, message, k.get(1), form) == 0) {
                found.put(k, form);
            }
        });
        return found;
    }

    int merged(int what) {
        require(what >= 0 && what <= 4, "argument");
        return merged[what];
    }

    // ---- messages

    int messages() {
        return messages.size();
    }

    String part(int message, int part) {
        requireMessage(message);
        require(part >= 0 && part <= 2, "argument");
        Message m = messages.get(message);
        return part == 0 ? m.context : part == 1 ? m.source : m.plural == null ? "" : m.plural;
    }

    int length(int message, int part) {
        return part(message, part).length();
    }

    int characterAt(int message, int part, int i) {
        return at(part(message, part), i);
    }

    int limit(int message) {
        requireMessage(message);
        return messages.get(message).limit;
    }

    int placeholder(int message, int index) {
        requireMessage(message);
        return messages.get(message).placeholders().getOrDefault(index, -1);
    }

    int origin(int message) {
        requireMessage(message);
        return messages.get(message).origin;
    }

    int cost(int one, int other) {
        requireMessage(one);
        requireMessage(other);
        return cost(messages.get(one), messages.get(other));
    }

    int cost(Message one, Message other) {
        int cost = distance(one.compared(one.source), other.compared(other.source), new HashMap<>());
        if (one.plural != null && other.plural != null) {
            cost += distance(one.compared(one.plural), other.compared(other.plural), new HashMap<>());
        }
        cost += (one.plural == null) != (other.plural == null) ? 10 : 0;
        return cost + (one.context.equals(other.context) ? 0 : 5);
    }

    /** From the ends, with a memory. */
    static int distance(List<String> a, List<String> b, Map<Integer, Integer> known) {
        if (a.isEmpty() || b.isEmpty()) {
            return size(a) + size(b);
        }
        int key = 100 * a.size() + b.size();
        if (known.containsKey(key)) {
            return known.get(key);
        }
        List<String> restA = a.subList(1, a.size());
        List<String> restB = b.subList(1, b.size());
        int best = Math.min(size(a.subList(0, 1)) + distance(restA, b, known),
                size(b.subList(0, 1)) + distance(a, restB, known));
        String x = a.get(0);
        String y = b.get(0);
        boolean letters = x.length() == 1 && Character.isLetter(x.charAt(0));
        if (x.equals(y)) {
            best = Math.min(best, distance(restA, restB, known));
        } else if (x.length() > 1 && y.length() > 1) {
            best = Math.min(best, 4 + distance(restA, restB, known));
        } else if (x.length() == 1 && y.length() == 1) {
            int step = letters && x.equalsIgnoreCase(y) ? 1 : 3;
            best = Math.min(best, step + distance(restA, restB, known));
        }
        known.put(key, best);
        return best;
    }

    static int size(List<String> symbols) {
        return symbols.stream().mapToInt(s -> s.length() > 1 ? 6 : 2).sum();
    }

    boolean similar(Message one, Message other) {
        int sizes = size(one.compared(one.source)) + size(other.compared(other.source));
        return 200 * cost(one, other) <= threshold * sizes;
    }

    int obsolete() {
        return obsolete.size();
    }

    int obsoleteCharacter(int k, int i) {
        require(k >= 0 && k < obsolete.size(), "bounds");
        return at(obsolete.get(k).source, i);
    }

    // ---- translations

    List<Integer> categories(int locale, Message message) {
        return message.plural == null ? List.of(5) : locales.get(locale).categories();
    }

    long forms(int locale, Message message) {
        return message.forms.keySet().stream().filter(k -> k.get(0) == locale).count();
    }

    int misfit(int locale, Message message, int category, String form) {
        Map<Integer, Integer> needed = message.placeholders();
        for (Symbol s : symbols(form)) {
            if (s.isPlaceholder() && !needed.containsKey(s.index())) {
                return 3;
            }
        }
        for (int index : needed.keySet()) {
            boolean free = message.plural != null && index == 0 && locales.get(locale).covered(category) <= 1;
            if (!free && symbols(form).stream().noneMatch(s -> s.index() == index)) {
                return 4;
            }
        }
        return 0;
    }

    int width(Message message, String form) {
        int width = 0;
        for (Symbol s : symbols(form)) {
            width += s.isPlaceholder() ? message.placeholders().get(s.index()) % 100 : widths[s.literal()];
        }
        return width;
    }

    int check(int locale, int message, int category) {
        requireLocale(locale);
        requireMessage(message);
        requireCategory(category);
        Message m = messages.get(message);
        if (!categories(locale, m).contains(category)) {
            return 1;
        }
        if (patternFault(PLAIN_PATTERN, pad) != -1) {
            return 2;
        }
        int misfit = misfit(locale, m, category, pad);
        return misfit != 0 ? misfit : m.limit != -1 && width(m, pad) > m.limit ? 5 : 0;
    }

    int translate(int locale, int message, int category) {
        require(check(locale, message, category) == 0, "argument");
        save();
        Message m = messages.get(message);
        m.forms.put(List.of(locale, category), pad);
        m.marks[locale] = false;
        return (int) (categories(locale, m).size() - forms(locale, m));
    }

    int untranslate(int locale, int message) {
        requireLocale(locale);
        requireMessage(message);
        int count = (int) forms(locale, messages.get(message));
        require(count > 0, "state");
        save();
        Message m = messages.get(message);
        m.forms.keySet().removeIf(k -> k.get(0) == locale);
        m.marks[locale] = false;
        return count;
    }

    int mark(int locale, int message, boolean marked) {
        requireLocale(locale);
        requireMessage(message);
        require(forms(locale, messages.get(message)) > 0, "state");
        save();
        boolean before = messages.get(message).marks[locale];
        messages.get(message).marks[locale] = marked;
        return before ? 1 : 0;
    }

    int state(int locale, Message m) {
        if (forms(locale, m) == 0) {
            return 0;
        }
        boolean full = categories(locale, m).stream().allMatch(c -> m.forms.containsKey(List.of(locale, c)));
        return !full ? 1 : m.marks[locale] ? 2 : 3;
    }

    int state(int locale, int message) {
        requireLocale(locale);
        requireMessage(message);
        return state(locale, messages.get(message));
    }

    String form(int locale, int message, int category) {
        requireLocale(locale);
        requireMessage(message);
        requireCategory(category);
        return messages.get(message).forms.get(List.of(locale, category));
    }

    int formCharacter(int locale, int message, int category, int i) {
        String form = form(locale, message, category);
        return form == null ? -1 : at(form, i);
    }

    int formWidth(int locale, int message, int category) {
        String form = form(locale, message, category);
        return form == null ? -1 : width(messages.get(message), form);
    }

    int total(int locale, int state) {
        requireLocale(locale);
        require(state >= 0 && state <= 3, "argument");
        return (int) messages.stream().filter(m -> state(locale, m) == state).count();
    }

    // ---- suggestions

    List<Integer> suggestions(int locale, int message) {
        requireLocale(locale);
        requireMessage(message);
        Message asking = messages.get(message);
        Map<Integer, Message> known = new TreeMap<>();
        for (int i = 0; i < messages.size(); i++) {
            known.put(i, messages.get(i));
        }
        for (int i = 0; i < obsolete.size(); i++) {
            known.put(100 + i, obsolete.get(i));
        }
        known.remove(message);
        List<Integer> all = new ArrayList<>();
        known.forEach((number, m) -> {
            if (state(locale, m) == 3 && similar(asking, m)) {
                all.add(number);
            }
        });
        // A stable sort keeps the order of the numbers for equal costs.
        all.sort(Comparator.comparingInt(number -> cost(asking, known.get(number))));
        return all;
    }

    int suggestion(int locale, int message, int rank) {
        List<Integer> all = suggestions(locale, message);
        return rank >= 0 && rank < all.size() ? all.get(rank) : -1;
    }

    int adopt(int locale, int message, int rank) {
        int number = suggestion(locale, message, rank);
        require(number != -1, "argument");
        Message from = number < 100 ? messages.get(number) : obsolete.get(number - 100);
        Map<List<Integer>, String> suitable = suitable(locale, messages.get(message), from);
        if (!suitable.isEmpty()) {
            save();
            Message m = messages.get(message);
            m.forms.keySet().removeIf(k -> k.get(0) == locale);
            m.forms.putAll(suitable);
            m.marks[locale] = true;
        }
        return suitable.size();
    }

    // ---- showing

    int kind(Object argument) {
        return argument == null ? 0 : argument instanceof Long ? 1 : 2;
    }

    int setNumber(int index, long value) {
        require(index >= 0 && index <= 9, "bounds");
        int before = kind(arguments[index]);
        arguments[index] = value;
        return before;
    }

    int setText(int index) {
        require(index >= 0 && index <= 9, "bounds");
        require(pad.length() <= 40 && pad.indexOf('\n') == -1, "argument");
        int before = kind(arguments[index]);
        arguments[index] = pad;
        return before;
    }

    int show(int locale, int message, int count) {
        requireLocale(locale);
        requireMessage(message);
        require(count >= 0, "argument");
        Message m = messages.get(message);
        String text = m.plural != null && count != 1 ? m.plural : m.source;
        int from = -1;
        for (int at = locale; at != -1 && from == -1; at = locales.get(at).parent) {
            int category = m.plural == null ? 5 : locales.get(at).category(count);
            String form = m.forms.get(List.of(at, category));
            if (state(at, m) == 3 && misfit(at, m, category, form) == 0
                    && (m.limit == -1 || width(m, form) <= m.limit)) {
                from = at;
                text = form;
            }
        }
        shown = filled(m, text, count, from, false);
        shownLocale = from;
        return shown.length();
    }

    int pseudo(int message, int count) {
        requireMessage(message);
        require(count >= 0, "argument");
        Message m = messages.get(message);
        String text = m.plural != null && count != 1 ? m.plural : m.source;
        shown = "[" + filled(m, text, count, -1, true) + "]";
        shownLocale = -1;
        return shown.length();
    }

    String filled(Message m, String text, int count, int from, boolean doubled) {
        StringBuilder filled = new StringBuilder();
        for (Symbol s : symbols(text)) {
            if (!s.isPlaceholder()) {
                boolean twice = doubled && "aeiouAEIOU".indexOf(s.literal()) >= 0;
                filled.append(s.literal()).append(twice ? "" + s.literal() : "");
                continue;
            }
            Object argument = m.plural != null && s.index() == 0 ? (Object) (long) count : arguments[s.index()];
            int described = m.placeholders().get(s.index());
            require(kind(argument) == 1 + described / 100, "state");
            String value = argument instanceof Long ? number((Long) argument, from) : (String) argument;
            require(value.chars().map(c -> widths[c]).sum() <= described % 100, "state");
            filled.append(value);
        }
        return filled.toString();
    }

    String number(long value, int from) {
        String digits = BigInteger.valueOf(value).abs().toString();
        if (from != -1 && locales.get(from).separator != 0) {
            StringBuilder reversed = new StringBuilder(digits).reverse();
            StringBuilder grouped = new StringBuilder();
            for (int i = 0; i < reversed.length(); i++) {
                if (i > 0 && i % locales.get(from).size == 0) {
                    grouped.append((char) locales.get(from).separator);
                }
                grouped.append(reversed.charAt(i));
            }
            digits = grouped.reverse().toString();
        }
        return (value < 0 ? "-" : "") + digits;
    }

    int shownCharacter(int i) {
        return at(shown, i);
    }

    int shownLocale() {
        return shownLocale;
    }

    // ---- problems

    List<int[]> allProblems(int locale) {
        requireLocale(locale);
        List<int[]> all = new ArrayList<>();
        for (Rule rule : locales.get(locale).rules) {
            if (locales.get(locale).covered(rule.category()) == 0) {
                all.add(new int[] {1, -1, rule.category()});
            }
        }
        for (int i = 0; i < messages.size(); i++) {
            Message m = messages.get(i);
            if (state(locale, m) == 0) {
                all.add(new int[] {2, i, -1});
                continue;
            }
            for (int category : categories(locale, m)) {
                if (!m.forms.containsKey(List.of(locale, category))) {
                    all.add(new int[] {3, i, category});
                }
            }
            if (m.marks[locale]) {
                all.add(new int[] {4, i, -1});
            }
            for (int category : categories(locale, m)) {
                String form = m.forms.get(List.of(locale, category));
                if (form != null) {
                    addFormProblems(all, locale, i, category, form);
                }
            }
        }
        return all;
    }

    void addFormProblems(List<int[]> all, int locale, int i, int category, String form) {
        Message m = messages.get(i);
        String source = m.plural != null && category != 1 ? m.plural : m.source;
        boolean[] found = new boolean[10];
        found[5] = misfit(locale, m, category, form) != 0;
        found[6] = m.limit != -1 && width(m, form) > m.limit;
        found[7] = form.startsWith(" ") != source.startsWith(" ") || form.endsWith(" ") != source.endsWith(" ");
        String a = form.substring(form.length() - 1);
        String b = source.substring(source.length() - 1);
        found[8] = !a.equals(b) && (".!?:".contains(a) || ".!?:".contains(b));
        found[9] = form.equals(source.replaceAll("(?<!\\{)((?:\\{\\{)*)\\{([0-9]):[ds][0-9]+\\}", "$1{$2}"));
        for (int kind = 5; kind <= 9; kind++) {
            if (found[kind]) {
                all.add(new int[] {kind, i, category});
            }
        }
    }

    int problems(int locale) {
        return allProblems(locale).size();
    }

    int problem(int locale, int i, int what) {
        List<int[]> all = allProblems(locale);
        require(what >= 0 && what <= 2, "argument");
        return i >= 0 && i < all.size() ? all.get(i)[what] : -1;
    }

    // ---- undo, checksum

    /** The saved state, with copies of all that is changed in place. */
    private void save() {
        Model copy = new Model();
        locales.forEach(l -> copy.locales.add(l.copy()));
        messages.forEach(m -> copy.messages.add(m.copy()));
        obsolete.forEach(m -> copy.obsolete.add(m.copy()));
        copy.widths = widths.clone();
        copy.threshold = threshold;
        saved.add(copy);
        if (saved.size() > 6) {
            saved.remove(0);
        }
    }

    int undo() {
        require(!saved.isEmpty(), "state");
        Model last = saved.remove(saved.size() - 1);
        locales = last.locales;
        messages = last.messages;
        obsolete = last.obsolete;
        widths = last.widths;
        threshold = last.threshold;
        return saved.size();
    }

    long checksum() {
        List<Integer> v = new ArrayList<>();
        v.add(locales.size());
        for (Locale locale : locales) {
            v.addAll(List.of(locale.parent, locale.separator, locale.size));
            v.addAll(locale.categories());
        }
        v.add(threshold);
        for (List<Message> list : List.of(messages, obsolete)) {
            v.add(list.size());
            for (Message m : list) {
                for (String text : List.of(m.context, m.source, m.plural == null ? "" : m.plural)) {
                    v.add(text.length());
                    text.chars().forEach(v::add);
                }
                v.add(m.limit);
                for (int locale = 0; locale < locales.size(); locale++) {
                    v.add(state(locale, m));
                    v.add(m.marks[locale] ? 1 : 0);
                    for (int category : categories(locale, m)) {
                        m.forms.getOrDefault(List.of(locale, category), "").chars().forEach(v::add);
                        v.add(-2);
                    }
                }
            }
        }
        for (int c = 32; c <= 126; c++) {
            v.add(widths[c]);
        }
        v.add(saved.size());
        long h = 18393;
        for (int number : v) {
            h = 31 * h + number;
        }
        return h;
    }

    // ---- what the document's exceptions need

    private void requireLocale(int locale) {
        require(locale >= 0 && locale < locales.size(), "bounds");
    }

    private void requireMessage(int message) {
        require(message >= 0 && message < messages.size(), "bounds");
    }

    private static void requireCategory(int category) {
        require(category >= 0 && category <= 5, "argument");
    }

    private static void require(boolean good, String otherwise) {
        if (good) {
            return;
        }
        switch (otherwise) {
            case "bounds":
                throw new IndexOutOfBoundsException();
            case "argument":
                throw new IllegalArgumentException();
            default:
                throw new IllegalStateException();
        }
    }

    private static int at(String text, int i) {
        return i >= 0 && i < text.length() ? text.charAt(i) : -1;
    }
}
