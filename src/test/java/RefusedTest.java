import java.util.function.Supplier;

/**
 * Each sentence that begins with "Throws": the calls on both sides of its boundary, and that a
 * refused call changes nothing, neither the state nor the pad, the staged messages, the arguments,
 * the shown text, the results of merges or the saved states.
 */
final class RefusedTest {
    /** A call on a catalog. */
    private interface Call {
        long on(TranslationCatalog x);
    }

    /** A call with a number in it. */
    private interface Numbered {
        long on(TranslationCatalog x, int number);
    }

    private static final int NONE = -1;
    private static final int LEAST = Integer.MIN_VALUE;
    private static final int MOST = Integer.MAX_VALUE;
    private static final int LOCALES = 3;
    private static final int MESSAGES = 5;
    private static final String FORM = "{0} f";
    private static final String RULES = "one: n = 2; two: n = 1";
    private static final String LINES = "|one||\n|two|twos|5";

    public static void main(String[] args) {
        Catalog.term("EXCEPTIONS", "A call that throws an exception changes nothing.");
        Catalog.text("a report tells nothing new of the same", Report.of(() -> Catalog.rich("a")), Report.of(() -> Catalog.rich("a")));
        pad();
        addLocale();
        setParent();
        setRules();
        setGrouping();
        lookAtLocales();
        widthAndThreshold();
        templates();
        messageTexts();
        otherMessageCalls();
        checkAndTranslate();
        untranslateAndMark();
        formsAndTotals();
        suggestions();
        arguments();
        show();
        pseudo();
        problems();
        undo();
        firstListed();
        noneOnlyWithout();
        Catalog.end();
    }

    /** A rich one with a fourth locale. */
    private static Catalog full() {
        Catalog c = Catalog.rich("");
        c.x.addLocale(2);
        return c;
    }

    /** A rich one with nothing staged. */
    private static Catalog unstaged() {
        Catalog c = Catalog.rich(LINES);
        c.x.unstage();
        return c;
    }

    private static void refused(String what, long due, String pad, Call call) {
        refused(what, due, () -> Catalog.rich(pad), call);
    }

    private static void refused(String what, long due, Supplier<Catalog> made, Call call) {
        Catalog c = made.get();
        Catalog.same(what, due, Catalog.answer(() -> call.on(c.x)));
        Catalog.text(what + " changes nothing", Report.of(made), Report.of(() -> {
            Catalog d = made.get();
            Catalog.answer(() -> call.on(d.x));
            return d;
        }));
    }

    private static void accepted(String what, String pad, Call call) {
        Catalog c = Catalog.rich(pad);
        Catalog.same(what + " is allowed", 1, Catalog.answer(() -> call.on(c.x)) < Catalog.BOUNDS ? 1 : 0);
    }

    /** The numbers from first to last are allowed, the ones beside them are refused. */
    private static void within(int first, int last, long due, String pad, Numbered call) {
        for (int wrong : new int[] {LEAST, first - 1, last + 1, MOST}) {
            refused("with " + wrong, due, pad, x -> call.on(x, wrong));
        }
        for (int number = first; number <= last; number++) {
            int right = number;
            accepted("with " + right, pad, x -> call.on(x, right));
        }
    }

    private static void aLocale(String pad, Numbered call) {
        within(0, LOCALES - 1, Catalog.BOUNDS, pad, call);
    }

    private static void aMessage(String pad, Numbered call) {
        within(0, MESSAGES - 1, Catalog.BOUNDS, pad, call);
    }

    /** Of both just the calls that are named can be allowed, since not every message has forms. */
    private static void localeOrMessage(String pad, Numbered ofLocale, Numbered ofMessage, int... right) {
        for (int wrong : new int[] {LEAST, NONE, LOCALES, MOST}) {
            refused("locale " + wrong, Catalog.BOUNDS, pad, x -> ofLocale.on(x, wrong));
        }
        for (int wrong : new int[] {LEAST, NONE, MESSAGES, MOST}) {
            refused("message " + wrong, Catalog.BOUNDS, pad, x -> ofMessage.on(x, wrong));
        }
        accepted("locale 0", pad, x -> ofLocale.on(x, 0));
        for (int message : right) {
            accepted("message " + message, pad, x -> ofMessage.on(x, message));
        }
        // The last ones are there, so what is refused about them, if anything, is something else.
        for (int locale = 0; locale < LOCALES; locale++) {
            int number = locale;
            Catalog c = Catalog.rich(pad);
            long got = Catalog.answer(() -> ofLocale.on(c.x, number));
            Catalog.same("locale " + locale + " is there", 1, got != Catalog.BOUNDS ? 1 : 0);
        }
        for (int message = 0; message < MESSAGES; message++) {
            int number = message;
            Catalog c = Catalog.rich(pad);
            long got = Catalog.answer(() -> ofMessage.on(c.x, number));
            Catalog.same("message " + message + " is there", 1, got != Catalog.BOUNDS ? 1 : 0);
        }
    }

    private static void pad() {
        Catalog.promise(2, "Throws `IllegalArgumentException` if c is neither 10 nor from 32 to 126");
        within(32, 126, Catalog.ARGUMENT, "a", (x, c) -> x.type(c));
        within(10, 10, Catalog.ARGUMENT, "a", (x, c) -> x.type(c));
        Catalog.promise(2, "Throws `IllegalStateException` if the pad has 240 characters");
        accepted("the 240th", "a".repeat(239), x -> x.type('b'));
        refused("the 241st", Catalog.STATE, "a".repeat(240), x -> x.type('b'));
        refused("the 241st, a line feed", Catalog.STATE, "a".repeat(240), x -> x.type(10));
        Catalog.promise(4, "Throws `IllegalArgumentException` if kind is not 0 to 3");
        within(0, 3, Catalog.ARGUMENT, "", (x, kind) -> x.padFault(kind));
    }

    private static void addLocale() {
        Catalog.promise(5, "Throws `IndexOutOfBoundsException` if parent is neither NONE nor a locale");
        within(NONE, LOCALES - 1, Catalog.BOUNDS, "", (x, parent) -> x.addLocale(parent));
        Catalog.promise(5, "Throws `IllegalStateException` if there are 4 locales");
        accepted("the fourth", "", x -> x.addLocale(2));
        for (int parent = NONE; parent < 4; parent++) {
            int right = parent;
            refused("the fifth", Catalog.STATE, RefusedTest::full, x -> x.addLocale(right));
        }
        Catalog c = full();
        c.due("still four", 4, () -> c.x.locales());
        c.x.undo();
        c.due("after undo", 3, () -> c.x.addLocale(NONE));
    }

    private static void setParent() {
        Catalog.promise(6, "Throws `IndexOutOfBoundsException` if there is no such locale, "
                + "or parent is neither NONE nor a locale");
        within(0, LOCALES - 1, Catalog.BOUNDS, "", (x, locale) -> x.setParent(locale, NONE));
        for (int wrong : new int[] {LEAST, -2, LOCALES, MOST}) {
            refused("parent " + wrong, Catalog.BOUNDS, "", x -> x.setParent(2, wrong));
        }
        for (int parent = NONE; parent < 2; parent++) {
            int right = parent;
            accepted("parent " + right, "", x -> x.setParent(2, right));
        }
        Catalog.promise(6, "Throws `IllegalArgumentException` if parent is the locale itself, "
                + "or following the parents of the new parent leads to it");
        for (int locale = 0; locale < LOCALES; locale++) {
            int itself = locale;
            refused("itself", Catalog.ARGUMENT, "", x -> x.setParent(itself, itself));
        }
        refused("a child", Catalog.ARGUMENT, "", x -> x.setParent(0, 1));
        refused("a grandchild", Catalog.ARGUMENT, "", x -> x.setParent(0, 2));
        refused("the other child", Catalog.ARGUMENT, "", x -> x.setParent(1, 2));
        accepted("the parent that it has", "", x -> x.setParent(2, 1));
        accepted("the grandparent", "", x -> x.setParent(2, 0));
    }

    private static void setRules() {
        Catalog.promise(7, "Throws `IndexOutOfBoundsException` if there is no such locale");
        aLocale(RULES, (x, locale) -> x.setRules(locale));
        Catalog.promise(7, "Throws `IllegalArgumentException` if the pad has a fault as plural rules");
        for (String wrong : new String[] {"one", "one: n = 1;", "one: n = 1; one: n = 2", "other: n = 1", FORM, LINES}) {
            refused(wrong, Catalog.ARGUMENT, wrong, x -> x.setRules(1));
        }
        for (String right : new String[] {"", "  ", "one: n = 1", RULES}) {
            accepted(right, right, x -> x.setRules(1));
        }
    }

    private static void setGrouping() {
        Catalog.promise(8, "Throws `IndexOutOfBoundsException` if there is no such locale");
        aLocale("", (x, locale) -> x.setGrouping(locale, 46, 3));
        Catalog.promise(8, "Throws `IllegalArgumentException` if separator or size is out of range");
        for (int c = -3; c < 260; c++) {
            int separator = c;
            boolean right = c == 0 || c >= 32 && c <= 126 && !(c >= '0' && c <= '9') && c != '-';
            if (right) {
                accepted("separator " + c, "", x -> x.setGrouping(2, separator, 1));
            } else {
                refused("separator " + c, Catalog.ARGUMENT, "", x -> x.setGrouping(2, separator, 1));
            }
        }
        refused("the least", Catalog.ARGUMENT, "", x -> x.setGrouping(2, LEAST, 1));
        refused("the most", Catalog.ARGUMENT, "", x -> x.setGrouping(2, MOST, 1));
        within(1, 4, Catalog.ARGUMENT, "", (x, size) -> x.setGrouping(2, '.', size));
        within(1, 4, Catalog.ARGUMENT, "", (x, size) -> x.setGrouping(2, 0, size));
    }

    private static void lookAtLocales() {
        Catalog.promise(10, "Throws `IndexOutOfBoundsException` if there is no such locale");
        aLocale("", (x, locale) -> x.parent(locale));
        Catalog.promise(11, "Throws `IndexOutOfBoundsException` if there is no such locale");
        aLocale("", (x, locale) -> x.category(locale, 1));
        Catalog.promise(11, "Throws `IllegalArgumentException` if n is negative");
        refused("-1", Catalog.ARGUMENT, "", x -> x.category(1, -1));
        refused("the least", Catalog.ARGUMENT, "", x -> x.category(1, LEAST));
        accepted("0", "", x -> x.category(1, 0));
        accepted("the most", "", x -> x.category(1, MOST));
        Catalog.promise(12, "Throws `IndexOutOfBoundsException` if there is no such locale");
        aLocale("", (x, locale) -> x.categoryAt(locale, 0));
        Catalog.promise(13, "Throws `IndexOutOfBoundsException` if there is no such locale");
        aLocale("", (x, locale) -> x.covered(locale, 1));
        Catalog.promise(13, "Throws `IllegalArgumentException` if category is not 0 to 5");
        within(0, 5, Catalog.ARGUMENT, "", (x, category) -> x.covered(1, category));
    }

    private static void widthAndThreshold() {
        Catalog.promise(14, "Throws `IllegalArgumentException` if c or width is out of range");
        within(32, 126, Catalog.ARGUMENT, "", (x, c) -> x.setWidth(c, 2));
        refused("a line feed", Catalog.ARGUMENT, "", x -> x.setWidth(10, 1));
        within(0, 2, Catalog.ARGUMENT, "", (x, width) -> x.setWidth('m', width));
        Catalog.promise(15, "Throws `IllegalArgumentException` if percent is out of range");
        within(0, 60, Catalog.ARGUMENT, "", (x, percent) -> x.setThreshold(percent));
    }

    private static void templates() {
        Catalog.promise(16, "Throws `IllegalArgumentException` if the pad has a fault as a template");
        String[] wrong = {"", "|", "|a", "|a||\n", "\n|a||", "|a||0", "|a||201", "|{0}|x|", "|a||\n|a||", "x|other|others|",
            "|a||\n|b||\n|c", "|new||\nx|other|others|3", FORM, RULES};
        for (String template : wrong) {
            refused(template, Catalog.ARGUMENT, template, x -> x.stage());
        }
        for (String template : new String[] {"|a||", "|a||200", LINES, "|other|others|", "x|other||"}) {
            accepted(template, template, x -> x.stage());
        }
        Catalog.promise(18, "Throws `IllegalStateException` if nothing is staged");
        accepted("two staged", "", x -> x.merge());
        refused("none staged", Catalog.STATE, RefusedTest::unstaged, x -> x.merge());
        Catalog none = unstaged();
        none.x.stage();
        none.x.merge();
        none.due("none staged any more", Catalog.STATE, () -> none.x.merge());
        none.x.undo();
        none.due("none staged after undo", Catalog.STATE, () -> none.x.merge());
        Catalog.promise(19, "Throws `IllegalArgumentException` if what is not 0 to 4");
        within(0, 4, Catalog.ARGUMENT, "", (x, what) -> x.merged(what));
    }

    private static void messageTexts() {
        Catalog.promise(21, "Throws `IndexOutOfBoundsException` if there is no such message");
        aMessage("", (x, message) -> x.length(message, 1));
        Catalog.promise(21, "Throws `IllegalArgumentException` if part is not 0 to 2");
        within(0, 2, Catalog.ARGUMENT, "", (x, part) -> x.length(0, part));
        Catalog.promise(22, "Throws `IndexOutOfBoundsException` if there is no such message");
        aMessage("", (x, message) -> x.characterAt(message, 1, 0));
        Catalog.promise(22, "Throws `IllegalArgumentException` if part is not 0 to 2");
        within(0, 2, Catalog.ARGUMENT, "", (x, part) -> x.characterAt(0, part, 0));
    }

    private static void otherMessageCalls() {
        Catalog.promise(23, "Throws `IndexOutOfBoundsException` if there is no such message");
        aMessage("", (x, message) -> x.limit(message));
        Catalog.promise(24, "Throws `IndexOutOfBoundsException` if there is no such message");
        aMessage("", (x, message) -> x.placeholder(message, 0));
        Catalog.promise(25, "Throws `IndexOutOfBoundsException` if there is no such message");
        aMessage("", (x, message) -> x.origin(message));
        Catalog.promise(26, "Throws `IndexOutOfBoundsException` if one of them does not exist");
        within(0, MESSAGES - 1, Catalog.BOUNDS, "", (x, one) -> x.cost(one, 0));
        within(0, MESSAGES - 1, Catalog.BOUNDS, "", (x, other) -> x.cost(0, other));
        refused("neither exists", Catalog.BOUNDS, "", x -> x.cost(MESSAGES, MESSAGES));
        Catalog.promise(28, "Throws `IndexOutOfBoundsException` if there is no such obsolete message");
        within(0, 0, Catalog.BOUNDS, "", (x, k) -> x.obsoleteCharacter(k, 0));
    }

    private static void checkAndTranslate() {
        Catalog.promise(29, "Throws `IndexOutOfBoundsException` if there is no such locale or message");
        localeOrMessage(FORM, (x, locale) -> x.check(locale, 2, 5), (x, message) -> x.check(0, message, 5),
                0, 1, 2, 3, 4);
        Catalog.promise(29, "Throws `IllegalArgumentException` if category is not 0 to 5");
        within(0, 5, Catalog.ARGUMENT, FORM, (x, category) -> x.check(1, 2, category));
        Catalog.promise(30, "Throws `IndexOutOfBoundsException` if there is no such locale or message");
        localeOrMessage(FORM, (x, locale) -> x.translate(locale, 2, 5),
                (x, message) -> x.translate(0, message, 5), 2);
        Catalog.promise(30, "Throws `IllegalArgumentException` if category is not 0 to 5, "
                + "or check() would not return 0");
        for (int category : new int[] {LEAST, -1, 6, MOST}) {
            refused("category " + category, Catalog.ARGUMENT, FORM, x -> x.translate(1, 2, category));
        }
        for (int category = 0; category <= 5; category++) {
            int each = category;
            if (category == 1 || category == 3 || category == 5) {
                accepted("category " + category, FORM, x -> x.translate(1, 2, each));
            } else {
                refused("category " + category, Catalog.ARGUMENT, FORM, x -> x.translate(1, 2, each));
            }
        }
        refused("no pattern", Catalog.ARGUMENT, "{0", x -> x.translate(1, 2, 5));
        refused("an unknown placeholder", Catalog.ARGUMENT, "{0}{1}", x -> x.translate(1, 2, 5));
        refused("a placeholder is missing", Catalog.ARGUMENT, "f", x -> x.translate(1, 2, 5));
        refused("too wide", Catalog.ARGUMENT, "{0} 1234567890", x -> x.translate(1, 2, 5));
        accepted("just not too wide", "{0} 123456789", x -> x.translate(1, 2, 5));
    }

    private static void untranslateAndMark() {
        Catalog.promise(31, "Throws `IndexOutOfBoundsException` if there is no such locale or message");
        localeOrMessage("", (x, locale) -> x.untranslate(locale, 2), (x, message) -> x.untranslate(0, message),
                0, 1, 2, 3);
        Catalog.promise(31, "Throws `IllegalStateException` if there are none");
        refused("none anywhere", Catalog.STATE, "", x -> x.untranslate(0, 4));
        refused("none in this locale", Catalog.STATE, "", x -> x.untranslate(1, 0));
        refused("none in the last locale", Catalog.STATE, "", x -> x.untranslate(2, 2));
        accepted("two", "", x -> x.untranslate(1, 2));
        Catalog.promise(32, "Throws `IndexOutOfBoundsException` if there is no such locale or message");
        localeOrMessage("", (x, locale) -> x.mark(locale, 2, true), (x, message) -> x.mark(0, message, false),
                0, 1, 2, 3);
        Catalog.promise(32, "Throws `IllegalStateException` if the message has no form in the locale");
        for (boolean marked : new boolean[] {false, true}) {
            refused("none anywhere", Catalog.STATE, "", x -> x.mark(0, 4, marked));
            refused("none in this locale", Catalog.STATE, "", x -> x.mark(1, 0, marked));
            refused("none in the last locale", Catalog.STATE, "", x -> x.mark(2, 2, marked));
            accepted("two of three", "", x -> x.mark(1, 2, marked));
        }
    }

    private static void formsAndTotals() {
        Catalog.promise(33, "Throws `IndexOutOfBoundsException` if there is no such locale or message");
        localeOrMessage("", (x, locale) -> x.state(locale, 2), (x, message) -> x.state(1, message), 0, 1, 2, 3, 4);
        Catalog.promise(34, "Throws `IndexOutOfBoundsException` if there is no such locale or message");
        localeOrMessage("", (x, locale) -> x.formCharacter(locale, 2, 5, 0),
                (x, message) -> x.formCharacter(1, message, 5, 0), 0, 1, 2, 3, 4);
        Catalog.promise(34, "Throws `IllegalArgumentException` if category is not 0 to 5");
        within(0, 5, Catalog.ARGUMENT, "", (x, category) -> x.formCharacter(1, 2, category, 0));
        Catalog.promise(35, "Throws `IndexOutOfBoundsException` if there is no such locale or message");
        localeOrMessage("", (x, locale) -> x.formWidth(locale, 2, 5), (x, message) -> x.formWidth(1, message, 5),
                0, 1, 2, 3, 4);
        Catalog.promise(35, "Throws `IllegalArgumentException` if category is not 0 to 5");
        within(0, 5, Catalog.ARGUMENT, "", (x, category) -> x.formWidth(1, 2, category));
        Catalog.promise(36, "Throws `IndexOutOfBoundsException` if there is no such locale");
        aLocale("", (x, locale) -> x.total(locale, 0));
        Catalog.promise(36, "Throws `IllegalArgumentException` if state is not 0 to 3");
        within(0, 3, Catalog.ARGUMENT, "", (x, state) -> x.total(2, state));
    }

    private static void suggestions() {
        Catalog.promise(37, "Throws `IndexOutOfBoundsException` if there is no such locale or message");
        localeOrMessage("", (x, locale) -> x.suggestion(locale, 1, 0), (x, message) -> x.suggestion(1, message, 0),
                0, 1, 2, 3, 4);
        Catalog.promise(38, "Throws `IndexOutOfBoundsException` if there is no such locale or message");
        localeOrMessage("", (x, locale) -> x.adopt(locale, 1, 0), (x, message) -> x.adopt(0, message, 0), 0, 1);
        Catalog.promise(38, "Throws `IllegalArgumentException` if there is no such rank");
        within(0, 0, Catalog.ARGUMENT, "", (x, rank) -> x.adopt(0, 1, rank));
        refused("no suggestion in this locale", Catalog.ARGUMENT, "", x -> x.adopt(1, 1, 0));
        refused("no suggestion for this message", Catalog.ARGUMENT, "", x -> x.adopt(0, 4, 0));
    }

    private static void arguments() {
        Catalog.promise(39, "Throws `IndexOutOfBoundsException` if index is not 0 to 9");
        within(0, 9, Catalog.BOUNDS, "", (x, index) -> x.setNumber(index, 1));
        Catalog.promise(40, "Throws `IndexOutOfBoundsException` if index is not 0 to 9");
        within(0, 9, Catalog.BOUNDS, "text", (x, index) -> x.setText(index));
        Catalog.promise(40, "Throws `IllegalArgumentException` if the pad has more than 40 characters "
                + "or contains a line feed");
        String most = "abcde".repeat(8);
        accepted("40 characters", most, x -> x.setText(4));
        accepted("none", "", x -> x.setText(4));
        for (int index : new int[] {0, 3, 4, 9}) {
            refused("41 characters", Catalog.ARGUMENT, most + "a", x -> x.setText(index));
            refused("a line feed", Catalog.ARGUMENT, "\n", x -> x.setText(index));
            refused("the last of 40 is a line feed", Catalog.ARGUMENT, most.substring(1) + "\n", x -> x.setText(index));
        }
        refused("a line feed behind 40", Catalog.ARGUMENT, most + "\n", x -> x.setText(3));
        refused("a full pad", Catalog.ARGUMENT, most.repeat(6), x -> x.setText(3));
        refused("a line feed ahead", Catalog.ARGUMENT, "\nabc", x -> x.setText(3));
    }

    private static void show() {
        Catalog.promise(41, "Throws `IndexOutOfBoundsException` if there is no such locale or message");
        localeOrMessage("", (x, locale) -> x.show(locale, 2, 1), (x, message) -> x.show(1, message, 1), 0, 1, 2, 3, 4);
        Catalog.promise(41, "Throws `IllegalArgumentException` if count is negative");
        for (int message : new int[] {0, 2}) {
            refused("-1", Catalog.ARGUMENT, "", x -> x.show(0, message, -1));
            refused("the least", Catalog.ARGUMENT, "", x -> x.show(0, message, LEAST));
            accepted("0", "", x -> x.show(0, message, 0));
        }
        accepted("the most, without effect", "", x -> x.show(0, 0, MOST));
        Catalog.promise(41, "Throws `IllegalStateException` if a placeholder in the text needs an argument "
                + "that is not set or has the other type, or a value is wider than its placeholder");
        values((x, message) -> x.show(0, message, 1));
        refused("too wide a count", Catalog.STATE, "", x -> x.show(0, 2, 100000));
        accepted("just as wide", "", x -> x.show(0, 2, 99999));
    }

    private static void pseudo() {
        Catalog.promise(42, "Throws `IndexOutOfBoundsException` if there is no such message");
        aMessage("", (x, message) -> x.pseudo(message, 1));
        Catalog.promise(42, "Throws `IllegalArgumentException` if count is negative");
        for (int message : new int[] {0, 2}) {
            refused("-1", Catalog.ARGUMENT, "", x -> x.pseudo(message, -1));
            refused("the least", Catalog.ARGUMENT, "", x -> x.pseudo(message, LEAST));
            accepted("0", "", x -> x.pseudo(message, 0));
        }
        accepted("the most, without effect", "", x -> x.pseudo(0, MOST));
        Catalog.promise(42, "Throws `IllegalStateException` as for show()");
        values((x, message) -> x.pseudo(message, 1));
        refused("too wide a count", Catalog.STATE, "", x -> x.pseudo(2, 1000000));
        accepted("just as wide", "", x -> x.pseudo(2, 999999));
    }

    /** Messages whose argument 2 is not set, 3 is the number -5, 4 the text "some text", m is 2 wide. */
    private static void values(Numbered call) {
        String[] sources = {"{2}", "{2:s9}", "{3:s9}", "{3:d1}", "{4}", "{4:s9}", "{3}{2}", "{4:s10}{4}{3:d1}"};
        for (String source : sources) {
            valued(source, Catalog.STATE, call);
        }
        for (String source : new String[] {"{3:d2}", "{4:s10}", "{4:s10}{3:d2}{3}", "a"}) {
            valued(source, NONE, call);
        }
    }

    private static void valued(String source, long due, Numbered call) {
        Supplier<Catalog> made = () -> {
            Catalog c = Catalog.rich("");
            c.x.unstage();
            return c.merge("|" + source + "||");
        };
        if (due == NONE) {
            Catalog c = made.get();
            Catalog.same(source + " is allowed", 1, call.on(c.x, 0) > 0 ? 1 : 0);
        } else {
            refused(source, due, made, x -> call.on(x, 0));
        }
    }

    private static void problems() {
        Catalog.promise(45, "Throws `IndexOutOfBoundsException` if there is no such locale");
        aLocale("", (x, locale) -> x.problems(locale));
        Catalog.promise(46, "Throws `IndexOutOfBoundsException` if there is no such locale");
        aLocale("", (x, locale) -> x.problem(locale, 0, 0));
        Catalog.promise(46, "Throws `IllegalArgumentException` if what is not 0 to 2");
        within(0, 2, Catalog.ARGUMENT, "", (x, what) -> x.problem(1, 0, what));
    }

    private static void undo() {
        Catalog.promise(47, "Throws `IllegalStateException` if none is saved");
        Catalog c = Catalog.rich(FORM);
        for (int left = 5; left >= 0; left--) {
            c.due("one is saved", left, () -> c.x.undo());
        }
        c.due("none is saved", Catalog.STATE, () -> c.x.undo());
        c.due("none is saved, again", Catalog.STATE, () -> c.x.undo());
        c.due("the pad stays", FORM.length(), () -> c.x.clearPad());
        c.due("the staged ones stay", 2, () -> c.x.unstage());
        refused("none is saved any more", Catalog.STATE, () -> {
            Catalog d = Catalog.rich(FORM);
            for (int i = 0; i < 6; i++) {
                d.x.undo();
            }
            return d;
        }, x -> x.undo());
        Catalog fresh = new Catalog();
        fresh.due("none was ever saved", Catalog.STATE, () -> fresh.x.undo());
    }

    private static void firstListed() {
        Catalog.term("EXCEPTIONS", "If several exceptions of a method apply, the one that is listed first is thrown.");
        String fullPad = "a".repeat(240);
        refused("type: character, then full pad", Catalog.ARGUMENT, fullPad, x -> x.type(127));
        refused("addLocale: parent, then 4 locales", Catalog.BOUNDS, RefusedTest::full, x -> x.addLocale(4));
        refused("addLocale: parent below, then 4 locales", Catalog.BOUNDS, RefusedTest::full, x -> x.addLocale(-2));
        refused("setParent: none there, then itself", Catalog.BOUNDS, "", x -> x.setParent(3, 3));
        refused("setParent: none there below, then itself", Catalog.BOUNDS, "", x -> x.setParent(-2, -2));
        refused("setRules: locale, then fault", Catalog.BOUNDS, "one", x -> x.setRules(3));
        refused("setGrouping: locale, then separator", Catalog.BOUNDS, "", x -> x.setGrouping(3, '-', 1));
        refused("setGrouping: locale, then size", Catalog.BOUNDS, "", x -> x.setGrouping(-1, 0, 5));
        refused("category: locale, then n", Catalog.BOUNDS, "", x -> x.category(3, -1));
        refused("covered: locale, then category", Catalog.BOUNDS, "", x -> x.covered(3, 6));
        refused("length: message, then part", Catalog.BOUNDS, "", x -> x.length(5, 3));
        refused("characterAt: message, then part", Catalog.BOUNDS, "", x -> x.characterAt(5, 3, 0));
        refused("check: locale, then category", Catalog.BOUNDS, FORM, x -> x.check(3, 2, 6));
        refused("check: message, then category", Catalog.BOUNDS, FORM, x -> x.check(0, 5, -1));
        refused("translate: locale, then category", Catalog.BOUNDS, FORM, x -> x.translate(3, 2, 6));
        refused("translate: message, then category", Catalog.BOUNDS, FORM, x -> x.translate(0, 5, -1));
        refused("translate: locale, then check", Catalog.BOUNDS, "}", x -> x.translate(3, 2, 5));
        refused("translate: message, then check", Catalog.BOUNDS, "}", x -> x.translate(0, 5, 5));
        refused("untranslate: locale, then no forms", Catalog.BOUNDS, "", x -> x.untranslate(3, 4));
        refused("untranslate: message, then no forms", Catalog.BOUNDS, "", x -> x.untranslate(2, 5));
        refused("mark: locale, then no form", Catalog.BOUNDS, "", x -> x.mark(3, 4, true));
        refused("mark: message, then no form", Catalog.BOUNDS, "", x -> x.mark(2, 5, false));
        refused("formCharacter: locale, then category", Catalog.BOUNDS, "", x -> x.formCharacter(3, 2, 6, 0));
        refused("formCharacter: message, then category", Catalog.BOUNDS, "", x -> x.formCharacter(0, 5, -1, 0));
        refused("formWidth: locale, then category", Catalog.BOUNDS, "", x -> x.formWidth(3, 2, 6));
        refused("formWidth: message, then category", Catalog.BOUNDS, "", x -> x.formWidth(0, 5, -1));
        refused("total: locale, then state", Catalog.BOUNDS, "", x -> x.total(3, 4));
        refused("adopt: locale, then rank", Catalog.BOUNDS, "", x -> x.adopt(3, 1, 9));
        refused("adopt: message, then rank", Catalog.BOUNDS, "", x -> x.adopt(0, 5, 0));
        refused("setText: index, then length", Catalog.BOUNDS, fullPad, x -> x.setText(10));
        refused("setText: index, then line feed", Catalog.BOUNDS, "\n", x -> x.setText(-1));
        refused("problem: locale, then what", Catalog.BOUNDS, "", x -> x.problem(3, 0, 3));
        firstListedOfShow();
    }

    private static void firstListedOfShow() {
        refused("show: locale, then count", Catalog.BOUNDS, "", x -> x.show(3, 0, -1));
        refused("show: message, then count", Catalog.BOUNDS, "", x -> x.show(0, 5, -1));
        refused("pseudo: message, then count", Catalog.BOUNDS, "", x -> x.pseudo(5, -1));
        Supplier<Catalog> unset = () -> {
            Catalog c = Catalog.rich("");
            c.x.unstage();
            return c.merge("|{2}||");
        };
        refused("show: argument", Catalog.STATE, unset, x -> x.show(0, 0, 0));
        refused("show: count, then argument", Catalog.ARGUMENT, unset, x -> x.show(0, 0, -1));
        refused("show: locale, then argument", Catalog.BOUNDS, unset, x -> x.show(3, 0, 0));
        refused("pseudo: argument", Catalog.STATE, unset, x -> x.pseudo(0, 0));
        refused("pseudo: count, then argument", Catalog.ARGUMENT, unset, x -> x.pseudo(0, -1));
    }

    private static void noneOnlyWithout() {
        Catalog.term("EXCEPTIONS", "NONE is returned only if no exception applies.");
        refused("categoryAt", Catalog.BOUNDS, "", x -> x.categoryAt(3, 9));
        refused("characterAt", Catalog.BOUNDS, "", x -> x.characterAt(5, 1, 99));
        refused("characterAt, part", Catalog.ARGUMENT, "", x -> x.characterAt(0, 3, 99));
        refused("placeholder", Catalog.BOUNDS, "", x -> x.placeholder(5, 10));
        refused("obsoleteCharacter", Catalog.BOUNDS, "", x -> x.obsoleteCharacter(1, 99));
        refused("formCharacter", Catalog.BOUNDS, "", x -> x.formCharacter(3, 4, 0, 99));
        refused("formCharacter, category", Catalog.ARGUMENT, "", x -> x.formCharacter(0, 4, 6, 99));
        refused("formWidth, category", Catalog.ARGUMENT, "", x -> x.formWidth(0, 4, 6));
        refused("suggestion", Catalog.BOUNDS, "", x -> x.suggestion(3, 4, 9));
        refused("suggestion, message", Catalog.BOUNDS, "", x -> x.suggestion(0, 5, 9));
        refused("problem", Catalog.BOUNDS, "", x -> x.problem(3, 999, 0));
        refused("problem, what", Catalog.ARGUMENT, "", x -> x.problem(0, 999, 3));
        Catalog c = Catalog.rich("");
        c.due("categoryAt, none applies", NONE, () -> c.x.categoryAt(2, 9));
        c.due("characterAt, none applies", NONE, () -> c.x.characterAt(4, 1, 99));
        c.due("placeholder, none applies", NONE, () -> c.x.placeholder(4, 10));
        c.due("obsoleteCharacter, none applies", NONE, () -> c.x.obsoleteCharacter(0, 99));
        c.due("formCharacter, none applies", NONE, () -> c.x.formCharacter(2, 4, 0, 99));
        c.due("formWidth, none applies", NONE, () -> c.x.formWidth(2, 4, 5));
        c.due("suggestion, none applies", NONE, () -> c.x.suggestion(2, 4, 9));
        c.due("problem, none applies", NONE, () -> c.x.problem(2, 999, 0));
    }
}
