import java.util.List;
import java.util.Random;

/** Random runs, the same on the class and on the model: every answer and every exception is compared. */
final class ModelTest {
    private static final String[] WORDS = {
        "file", "File", "Open ", "open", "Quit", "Save ", "menu", " ", ".", "!", "?", ":", "{{", "}}", "a", "E", "x",
        "Delete all", "news"};
    private static final String[] RULES = {
        "", " ", "one: n = 1", "one:n=1;two:n=2", "few: n % 10 = 2..4 and n % 100 != 12..14",
        "zero: n = 0; one: n = 1; many: n % 100 = 11..99 or n = 1000", "one: n = 0,1; many: n = 5000",
        "two: n != 2", "many: n % 7 = 0, 2..3 or n % 5 != 1,3 and n = 0..900", "one: n % 10 = 1 and n % 100 != 11"};
    private static final String RULE_SIGNS = "n%=!.,;: 0123456789onewtzrmayfd+";
    private static final String SIGNS = "{}|:ds0123456789abAB. \n~";

    private final Random random;
    private final TranslationCatalog x = new TranslationCatalog();
    private final Model m = Model.atFirst();
    private String last = "";

    private ModelTest(long seed) {
        random = new Random(seed);
    }

    public static void main(String[] args) {
        int runs = args.length > 0 ? Integer.parseInt(args[0]) : 150;
        int first = args.length > 1 ? Integer.parseInt(args[1]) : 1;
        for (int seed = first; seed < first + runs; seed++) {
            ModelTest run = new ModelTest(seed);
            for (int i = 0; i < 250; i++) {
                run.step();
                Catalog.same("seed " + seed + ", call " + i + ", checksum after " + run.last,
                        run.m.checksum(), run.x.checksum());
            }
        }
        Catalog.end();
    }

    /** A number from 0 to n - 1. */
    private int any(int n) {
        return random.nextInt(n);
    }

    /** Mostly a number from 0 to n - 1, at times one beside these. */
    private int near(int n) {
        int chance = any(40);
        return chance == 0 ? -1 : chance == 1 ? n : chance == 2 ? Integer.MIN_VALUE
                : chance == 3 ? Integer.MAX_VALUE : any(Math.max(1, n));
    }

    private <T> T one(T[] all) {
        return all[any(all.length)];
    }

    private void same(String call, Catalog.Call model, Catalog.Call real) {
        last = call;
        Catalog.same(call, Catalog.answer(model), Catalog.answer(real));
    }

    private void pad(String text) {
        same("clearPad", () -> m.clearPad(), () -> x.clearPad());
        for (int i = 0; i < text.length(); i++) {
            char c = text.charAt(i);
            same("type", () -> m.type(c), () -> x.type(c));
        }
    }

    private String pattern(boolean source) {
        StringBuilder text = new StringBuilder();
        int pieces = 1 + any(4);
        for (int i = 0; i < pieces; i++) {
            if (any(3) == 0) {
                text.append('{').append(any(3));
                if (source && any(2) == 0) {
                    text.append(':').append(any(3) == 0 ? 's' : 'd').append(any(4) == 0 ? 1 + any(40) : 6);
                }
                text.append('}');
            } else {
                text.append(one(WORDS));
            }
        }
        return text.toString();
    }

    /** Many short messages, or a few that are like one another. */
    private String family() {
        StringBuilder text = new StringBuilder();
        int lines = any(2) == 0 ? 2 + any(5) : 8 + any(17);
        String base = lines > 6 ? "" : one(new String[] {"Open the file {1:s9}", "{0:d6} new files", "Delete all!"});
        for (int i = 0; i < lines; i++) {
            String source = base.replace("e", one(new String[] {"e", "e", "E", "x"}))
                    + (base.isEmpty() || any(4) == 0 ? one(WORDS) + any(9) : "");
            boolean plural = any(3) == 0;
            String line = "|" + source + "|" + (plural ? source + "s" : "") + "|";
            if (text.length() + line.length() < 238) {
                text.append(i == 0 ? "" : "\n").append(line);
            }
        }
        return text.toString();
    }

    /** Gives every message of a locale most of its forms. */
    private void translateAll() {
        int locale = any(m.locales());
        for (int i = 0; i < m.messages(); i++) {
            int message = i;
            for (int category : m.categories(locale, m.messages.get(i))) {
                Model.Message of = m.messages.get(i);
                String source = of.plural == null || category == 1 ? of.source : of.plural;
                if (any(12) != 0) {
                    pad(source.replaceAll("\\{([0-9]):[ds][0-9]+\\}", "{$1}").replace("e", any(2) == 0 ? "e" : "i"));
                    same("translate", () -> m.translate(locale, message, category),
                            () -> x.translate(locale, message, category));
                }
            }
        }
        for (int i = 0; i < m.messages() && any(2) == 0; i++) {
            int message = i;
            for (int k = -1; k < 4; k++) {
                int rank = k;
                same("suggestion", () -> m.suggestion(locale, message, rank), () -> x.suggestion(locale, message, rank));
            }
            int rank = any(3);
            same("adopt", () -> m.adopt(locale, message, rank), () -> x.adopt(locale, message, rank));
        }
    }

    private String template() {
        if (any(3) == 0) {
            return family();
        }
        StringBuilder text = new StringBuilder();
        int lines = 1 + any(5);
        for (int i = 0; i < lines; i++) {
            text.append(i == 0 ? "" : "\n").append(line());
        }
        return text.toString();
    }

    private String line() {
        String end = any(3) == 0 ? "" + (1 + any(24)) : "";
        List<Model.Message> known = any(2) == 0 ? m.messages : m.obsolete;
        if (!known.isEmpty() && any(2) == 0) {
            Model.Message message = known.get(any(known.size()));
            String key = message.key();
            int kind = any(4);
            if (kind == 0) {
                return key + "|" + end;
            }
            if (kind == 1) {
                return key.replace("e", any(2) == 0 ? "E" : "a") + "|" + end;
            }
            if (kind == 2) {
                return message.context + "|" + message.source + one(WORDS) + "||" + end;
            }
            return (any(2) == 0 ? "" : "menu") + "|" + message.source + "|" + message.source + "s|" + end;
        }
        String source = pattern(true);
        String plural = any(2) == 0 ? "" : source.replaceAll(":[ds][0-9]+", "") + one(WORDS);
        return one(new String[] {"", "", "menu", "a1", "abcdefgh"}) + "|" + source + "|" + plural + "|" + end;
    }

    private String form() {
        if (m.messages.isEmpty() || any(4) == 0) {
            return pattern(false);
        }
        Model.Message message = m.messages.get(any(m.messages.size()));
        String text = message.plural == null || any(2) == 0 ? message.source : message.plural;
        text = text.replaceAll("\\{([0-9]):[ds][0-9]+\\}", "{$1}");
        return any(2) == 0 ? text : any(2) == 0 ? text + one(WORDS) : text.replace("e", "i").replace("{0}", "");
    }

    private String broken(String text, String signs) {
        StringBuilder changed = new StringBuilder(text);
        int changes = any(2) == 0 ? 0 : 1 + any(3);
        for (int i = 0; i < changes; i++) {
            int at = any(changed.length() + 1);
            char sign = signs.charAt(any(signs.length()));
            if (any(2) == 0 || at == changed.length()) {
                changed.insert(at, sign);
            } else if (any(2) == 0) {
                changed.deleteCharAt(at);
            } else {
                changed.setCharAt(at, sign);
            }
        }
        return changed.length() > 240 ? changed.substring(0, 240) : changed.toString();
    }

    private String rules() {
        if (any(2) == 0) {
            return one(RULES);
        }
        StringBuilder text = new StringBuilder();
        int relations = 1 + any(any(8) == 0 ? 14 : 4);
        text.append(Model.NAMES.get(any(6))).append(':');
        for (int i = 0; i < relations; i++) {
            if (i > 0) {
                String next = "; " + Model.NAMES.get(any(5)) + " : ";
                text.append(one(new String[] {" and ", " or ", next}));
            }
            int first = any(30);
            text.append("n").append(any(2) == 0 ? "" : "%" + (1 + any(12))).append(any(3) == 0 ? "!=" : "=")
                    .append(first).append(any(2) == 0 ? "" : ".." + (first + any(9) - 1))
                    .append(any(3) == 0 ? "," + any(2000) : "");
        }
        return text.toString();
    }

    private String longPattern() {
        StringBuilder text = new StringBuilder();
        int size = 55 + any(8);
        while (text.length() < size) {
            text.append(any(6) == 0 ? "{1}" : any(6) == 0 ? "{{" : "a");
        }
        return text.toString();
    }

    private void step() {
        switch (any(13)) {
            case 11:
                if (any(2) == 0) {
                    translateAll();
                }
                break;
            case 0:
                pad(broken(any(6) == 0 ? longPattern() : pattern(any(2) == 0), SIGNS));
                break;
            case 1:
                pad(broken(rules(), RULE_SIGNS));
                break;
            case 2:
                pad(any(3) == 0 ? broken(template(), SIGNS) : template());
                same("stage", () -> m.stage(), () -> x.stage());
                break;
            case 3:
                pad(any(3) == 0 ? broken(form(), SIGNS) : form());
                translate();
                break;
            case 4:
                lookAtPad();
                break;
            case 5:
                changeLocales();
                break;
            case 6:
                changeOthers();
                break;
            case 7:
                changeForms();
                break;
            case 8:
                lookAtMessages();
                break;
            case 9:
                lookAtForms();
                break;
            case 10:
                show();
                break;
            default:
                lookAtProblems();
                break;
        }
    }

    private void translate() {
        int locale = near(m.locales());
        int message = near(m.messages());
        for (int c = -1; c < 7; c++) {
            int category = c;
            same("check", () -> m.check(locale, message, category), () -> x.check(locale, message, category));
            if (any(2) == 0) {
                same("translate", () -> m.translate(locale, message, category),
                        () -> x.translate(locale, message, category));
            }
        }
    }

    private void lookAtPad() {
        for (int k = -1; k < 5; k++) {
            int kind = k;
            same("padFault " + kind + " of " + m.pad, () -> m.padFault(kind), () -> x.padFault(kind));
        }
        int index = near(10);
        long value = any(2) == 0 ? random.nextLong() >> any(64) : any(3) == 0 ? Long.MIN_VALUE : any(2000) - 1000;
        if (any(2) == 0) {
            same("setNumber", () -> m.setNumber(index, value), () -> x.setNumber(index, value));
        } else {
            same("setText", () -> m.setText(index), () -> x.setText(index));
        }
        int c = any(3) == 0 ? any(140) - 5 : 10;
        same("type", () -> m.type(c), () -> x.type(c));
    }

    private void changeLocales() {
        int locale = near(m.locales());
        int parent = any(3) == 0 ? -1 : near(m.locales());
        switch (any(5)) {
            case 0:
                same("addLocale", () -> m.addLocale(parent), () -> x.addLocale(parent));
                break;
            case 1:
                same("setParent", () -> m.setParent(locale, parent), () -> x.setParent(locale, parent));
                break;
            case 2:
                int separator = any(3) == 0 ? 0 : any(130) - 1;
                int size = any(6);
                same("setGrouping", () -> m.setGrouping(locale, separator, size),
                        () -> x.setGrouping(locale, separator, size));
                break;
            default:
                pad(any(3) == 0 ? broken(rules(), RULE_SIGNS) : rules());
                same("setRules", () -> m.setRules(locale), () -> x.setRules(locale));
                break;
        }
        lookAtLocale(near(m.locales()));
    }

    private void lookAtLocale(int locale) {
        same("locales", () -> m.locales(), () -> x.locales());
        same("parent", () -> m.parent(locale), () -> x.parent(locale));
        for (int k = -1; k < 7; k++) {
            int i = k;
            same("categoryAt", () -> m.categoryAt(locale, i), () -> x.categoryAt(locale, i));
            same("covered", () -> m.covered(locale, i), () -> x.covered(locale, i));
            int n = any(4) == 0 ? random.nextInt() : any(1200);
            same("category", () -> m.category(locale, n), () -> x.category(locale, n));
        }
    }

    private void changeOthers() {
        switch (any(6)) {
            case 0:
                int c = any(110) + 25;
                int width = any(5) - 1;
                same("setWidth", () -> m.setWidth(c, width), () -> x.setWidth(c, width));
                break;
            case 1:
                int percent = any(2) == 0 ? 60 : any(64) - 1;
                same("setThreshold", () -> m.setThreshold(percent), () -> x.setThreshold(percent));
                break;
            case 2:
                if (any(4) == 0) {
                    same("unstage", () -> m.unstage(), () -> x.unstage());
                }
                break;
            case 3:
                same("undo", () -> m.undo(), () -> x.undo());
                break;
            default:
                same("merge", () -> m.merge(), () -> x.merge());
                for (int k = -1; k < 6; k++) {
                    int what = k;
                    same("merged " + what, () -> m.merged(what), () -> x.merged(what));
                }
                break;
        }
    }

    private void changeForms() {
        int locale = near(m.locales());
        int message = near(m.messages());
        int rank = near(3);
        switch (any(6)) {
            case 0:
                same("untranslate", () -> m.untranslate(locale, message), () -> x.untranslate(locale, message));
                break;
            case 1:
            case 2:
                boolean marked = any(3) == 0;
                same("mark", () -> m.mark(locale, message, marked), () -> x.mark(locale, message, marked));
                break;
            default:
                same("adopt", () -> m.adopt(locale, message, rank), () -> x.adopt(locale, message, rank));
                break;
        }
    }

    private void lookAtMessages() {
        same("messages", () -> m.messages(), () -> x.messages());
        same("obsolete", () -> m.obsolete(), () -> x.obsolete());
        int message = near(m.messages());
        int other = near(m.messages());
        same("limit", () -> m.limit(message), () -> x.limit(message));
        same("cost", () -> m.cost(message, other), () -> x.cost(message, other));
        for (int k = 0; k < m.messages(); k++) {
            int each = k;
            same("origin", () -> m.origin(each), () -> x.origin(each));
        }
        for (int k = -1; k < 11; k++) {
            int index = k;
            same("placeholder", () -> m.placeholder(message, index), () -> x.placeholder(message, index));
        }
        for (int k = -1; k < 4; k++) {
            int part = k;
            int i = near(12);
            same("length", () -> m.length(message, part), () -> x.length(message, part));
            same("characterAt", () -> m.characterAt(message, part, i), () -> x.characterAt(message, part, i));
        }
        int k = near(m.obsolete());
        int i = near(12);
        same("obsoleteCharacter", () -> m.obsoleteCharacter(k, i), () -> x.obsoleteCharacter(k, i));
        same("origin", () -> m.origin(message), () -> x.origin(message));
    }

    private void lookAtForms() {
        int locale = near(m.locales());
        int message = near(m.messages());
        int i = near(12);
        same("state", () -> m.state(locale, message), () -> x.state(locale, message));
        for (int k = -1; k < 7; k++) {
            int category = k;
            same("formCharacter", () -> m.formCharacter(locale, message, category, i),
                    () -> x.formCharacter(locale, message, category, i));
            same("formWidth", () -> m.formWidth(locale, message, category),
                    () -> x.formWidth(locale, message, category));
            same("total", () -> m.total(locale, category), () -> x.total(locale, category));
            same("suggestion", () -> m.suggestion(locale, message, category),
                    () -> x.suggestion(locale, message, category));
        }
    }

    private void show() {
        for (int index = 0; index < 3 && any(2) == 0; index++) {
            int argument = index;
            same("setNumber", () -> m.setNumber(argument, 1234), () -> x.setNumber(argument, 1234));
        }
        int locale = near(m.locales());
        int message = near(m.messages());
        int count = any(5) == 0 ? random.nextInt() : any(3) == 0 ? any(200000) : any(6);
        if (any(4) == 0) {
            same("pseudo", () -> m.pseudo(message, count), () -> x.pseudo(message, count));
        } else {
            same("show", () -> m.show(locale, message, count), () -> x.show(locale, message, count));
        }
        same("shownLocale", () -> m.shownLocale(), () -> x.shownLocale());
        for (int k = -1; k <= m.shown.length(); k++) {
            int i = k;
            same("shownCharacter", () -> m.shownCharacter(i), () -> x.shownCharacter(i));
        }
    }

    private void lookAtProblems() {
        int locale = near(m.locales());
        same("problems", () -> m.problems(locale), () -> x.problems(locale));
        int size = locale < 0 || locale >= m.locales() ? 0 : m.problems(locale);
        for (int k = -1; k <= size; k++) {
            int i = k;
            int what = near(3);
            same("problem", () -> m.problem(locale, i, what), () -> x.problem(locale, i, what));
        }
    }
}
