/** The edges of problems: each kind on both sides, their order, and their properties. */
final class ProblemEdgeTest {
    private static final int NONE = -1;

    public static void main(String[] args) {
        counting();
        rulesThatCoverNothing();
        missing();
        withoutForms();
        marked();
        eachCategory();
        unfit();
        tooWide();
        spaces();
        lastCharacters();
        sameContents();
        sourceOfAForm();
        properties();
        Catalog.end();
    }

    private static void list(Catalog c, int locale, String due) {
        int count = due.isEmpty() ? 0 : due.split(" ").length;
        c.due("count of " + due, count, () -> c.x.problems(locale));
        Catalog.text("problems", due, c.problemList(locale));
    }

    private static void counting() {
        Catalog.promise(45, "Counts the problems of a locale. They are ordered like this.");
        Catalog.promise(45, "a locale");
        Catalog.promise(45, "Returns how many there are.");
        Catalog c = new Catalog();
        list(c, 0, "");
        list(c, 1, "2/0/-1 3/1/5 2/2/-1");
        c.x.addLocale(NONE);
        list(c, 2, "2/0/-1 2/1/-1 2/2/-1");
        StringBuilder lines = new StringBuilder();
        for (int i = 0; i < 24; i++) {
            lines.append(i == 0 ? "" : "\n").append('|').append((char) ('a' + i)).append("|x|");
        }
        c.merge(lines.toString()).rules(2, "zero:n=1000;one:n=1000;two:n=1000;few:n=1000;many:n=1000");
        c.due("five rules and 24 messages", 29, () -> c.x.problems(2));
        c.due("the last one", 23, () -> c.x.problem(2, 28, 1));
        c.due("the last rule", 4, () -> c.x.problem(2, 4, 2));
        c.due("the first message", 0, () -> c.x.problem(2, 5, 1));
    }

    private static void rulesThatCoverNothing() {
        Catalog.promise(45, "First, for each rule, in order: problem 1 if its category covers no number "
                + "from 0 to 999 in the locale (message NONE).");
        Catalog c = new Catalog().merge("|a||").form(0, 0, 5, "b");
        list(c.rules(0, "one:n=999"), 0, "");
        list(c.rules(0, "one:n=1000"), 0, "1/-1/1");
        list(c.rules(0, "one:n=0"), 0, "");
        list(c.rules(0, "one:n=0 and n=1"), 0, "1/-1/1");
        list(c.rules(0, "one:n=999..1000"), 0, "");
        list(c.rules(0, "one:n=1000..9999"), 0, "1/-1/1");
        list(c.rules(0, "many:n=5;zero:n=5"), 0, "1/-1/0");
        list(c.rules(0, "many:n=5;zero:n=5..6"), 0, "");
        list(c.rules(0, "many:n!=0..9999;zero:n%2=2;one:n=1;few:n=1;two:n=2"), 0, "1/-1/4 1/-1/0 1/-1/3");
        // Other is of no rule.
        list(c.rules(0, "one:n=0..999"), 0, "");
        list(c, 1, "2/0/-1");
    }

    private static void missing() {
        Catalog.promise(45, "Then, for each message, in order: problem 2 (category NONE) if it is missing, "
                + "and nothing else.");
        Catalog c = new Catalog().merge("|a|b|\n|c||\n|d||");
        list(c, 0, "2/0/-1 2/1/-1 2/2/-1");
        c.form(0, 1, 5, "x");
        list(c, 0, "2/0/-1 2/2/-1");
        c.form(0, 2, 5, "x").form(0, 0, 5, "x");
        list(c, 0, "3/0/1");
        c.x.mark(0, 2, true);
        c.x.untranslate(0, 2);
        list(c, 0, "3/0/1 2/2/-1");
    }

    private static void withoutForms() {
        Catalog.promise(45, "Otherwise problem 3 for each category of the message in the locale without a form;");
        Catalog c = new Catalog().merge("|a|b|").rules(0, "many:n=4;zero:n=0;two:n=2");
        c.form(0, 0, 0, "x");
        list(c, 0, "3/0/4 3/0/2 3/0/5");
        c.form(0, 0, 5, "x");
        list(c, 0, "3/0/4 3/0/2");
        c.form(0, 0, 4, "x").form(0, 0, 2, "x");
        list(c, 0, "");
    }

    private static void marked() {
        Catalog.promise(45, "then problem 4 (category NONE) if it is marked;");
        Catalog c = new Catalog().merge("|a|b|\n|c||").form(0, 0, 1, "x").form(0, 1, 5, "c");
        c.x.mark(0, 0, true);
        c.x.mark(0, 1, true);
        list(c, 0, "3/0/5 4/0/-1 4/1/-1 9/1/5");
        c.x.mark(0, 0, false);
        list(c, 0, "3/0/5 4/1/-1 9/1/5");
    }

    private static void eachCategory() {
        Catalog.promise(45, "then, for each category with a form:");
        Catalog c = new Catalog().merge("|one|other|").rules(0, "many:n=4;zero:n=0");
        c.form(0, 0, 0, "a ").form(0, 0, 4, "b.").form(0, 0, 5, "other");
        list(c, 0, "8/0/4 7/0/0 9/0/5");
        // All that one form can have, in this order.
        Catalog d = new Catalog().merge("|{0}.|{0}.|12").rules(0, "one:n=1").form(0, 0, 1, " x").form(0, 0, 5, "{0}.");
        d.rules(0, "one:n=1..2");
        d.x.setWidth('x', 2);
        d.x.setWidth(' ', 2);
        list(d, 0, "5/0/1 7/0/1 8/0/1 9/0/5");
        d.x.setWidth('.', 2);
        list(d, 0, "5/0/1 7/0/1 8/0/1 9/0/5");
        d.merge("|{0}.|{0}.|11");
        list(d, 0, "5/0/1 7/0/1 8/0/1 6/0/5 9/0/5");
        d.merge("|{0}.|{0}.|3");
        list(d, 0, "5/0/1 6/0/1 7/0/1 8/0/1 6/0/5 9/0/5");
    }

    private static void unfit() {
        Catalog.promise(45, "problem 5 if the form does not fit;");
        Catalog c = new Catalog().merge("|{0} a|{0} b|").form(0, 0, 1, "x").form(0, 0, 5, "{0} y");
        list(c, 0, "");
        list(c.rules(0, "one:n=1,2"), 0, "5/0/1");
        list(c.rules(0, "one:n=999,1000"), 0, "");
        list(c.rules(0, "one:n=998,999"), 0, "5/0/1");
        list(c.rules(0, "one:n=1000"), 0, "1/-1/1");
        // Other may do without {0} while one number is left.
        Catalog d = new Catalog().merge("|{0} a|{0} b|").rules(0, "many:n!=7").form(0, 0, 5, "x").form(0, 0, 4, "{0} y");
        list(d, 0, "");
        list(d.rules(0, "many:n!=7,8"), 0, "5/0/5");
    }

    private static void tooWide() {
        Catalog.promise(45, "problem 6 if the message has a limit and the form is wider;");
        Catalog c = new Catalog().merge("|a||4\n|b||").form(0, 0, 5, "1234").form(0, 1, 5, "x".repeat(60));
        list(c, 0, "");
        c.x.setWidth('1', 2);
        list(c, 0, "6/0/5");
        c.x.setWidth('2', 0);
        list(c, 0, "");
        c.x.setWidth('x', 2);
        list(c, 0, "");
        c.merge("|a||3\n|b||120");
        list(c, 0, "6/0/5");
        c.merge("|a||\n|b||119");
        list(c, 0, "6/1/5");
    }

    /** The problems of a form for other in a message that has just one. */
    private static void form(String source, String form, String due) {
        Catalog c = new Catalog();
        c.x.setThreshold(0);
        list(c.merge("|" + source + "||").form(0, 0, 5, form), 0, due);
    }

    private static void spaces() {
        Catalog.promise(45, "problem 7 if just one of the form and its source begins with a space, "
                + "or just one ends with a space;");
        String[] ends = {"", " "};
        for (String a : ends) {
            for (String b : ends) {
                for (String c : ends) {
                    for (String d : ends) {
                        boolean differ = !a.equals(c) || !b.equals(d);
                        form(a + "src" + b, c + "form" + d, differ ? "7/0/5" : "");
                    }
                }
            }
        }
        form(" ", "x", "7/0/5");
        form(" ", " x ", "");
        form("  ", " x ", "");
        form("a b", "x", "");
        form("~a", "x~", "");
    }

    private static void lastCharacters() {
        Catalog.promise(45, "problem 8 if their last characters differ and one of these is \".\", \"!\", \"?\" or \":\";");
        String signs = ".!?:";
        for (int code = 33; code <= 126; code++) {
            if (code != '|') {
                String sign = "" + (char) code;
                String literal = code == '{' || code == '}' ? sign + sign : sign;
                boolean mark = signs.contains(sign);
                form("a" + literal, "bx", mark ? "8/0/5" : "");
                form("ax", "b" + literal, mark ? "8/0/5" : "");
                form("a" + literal, "b" + literal, "");
            }
        }
        // Two different ones of them, too.
        for (char one : signs.toCharArray()) {
            for (char other : signs.toCharArray()) {
                form("a" + one, "b" + other, one == other ? "" : "8/0/5");
            }
        }
        form("a.", "b..", "");
        form("a.b", "c!d", "");
        form("a. ", "b. ", "");
        form("a.", "b ", "7/0/5 8/0/5");
        form(".", "x", "8/0/5");
    }

    private static void sameContents() {
        Catalog.promise(45, "problem 9 if both consist of the same literal characters and placeholders (by their indices).");
        form("abc", "abc", "9/0/5");
        form("abc", "abC", "");
        form("abc", "ab", "");
        form("ab", "abc", "");
        form("{{a}}", "{{a}}", "9/0/5");
        form("{{a}}", "{{a{{", "");
        form("{1:s5} {2:d6}", "{1} {2}", "9/0/5");
        form("{1:s5} {2:d6}", "{2} {1}", "");
        form("{1} {2}", "{1} {2}", "9/0/5");
        form("{1:s5} {1}", "{1} {1}", "9/0/5");
        form("{1}{2}{1}", "{1}{2}{2}", "");
        form("{1}{2}{1}", "{1}{2}", "");
        form("{1}x", "x{1}", "");
        form("{0:s9}", "{0}", "9/0/5");
        form("{{1}}{1}", "{{1}}{1}", "9/0/5");
        form("{{1}}{1}", "{1}{{1}}", "");
    }

    private static void sourceOfAForm() {
        Catalog.promise(45, "The source of a form is the source pattern, or, for a plural message "
                + "and a category other than one (1), the plural pattern;");
        for (int category = 0; category < 6; category++) {
            Catalog c = new Catalog().merge("|one|many|").rules(0, "zero:n=0;one:n=1;two:n=2;few:n=3;many:n=4");
            StringBuilder none = new StringBuilder();
            for (int other = 0; other < 6; other++) {
                none.append(other == category ? "" : "3/0/" + other + " ");
            }
            c.form(0, 0, category, "one");
            list(c, 0, (none + (category == 1 ? "9/0/1" : "")).trim());
            c.form(0, 0, category, "many");
            list(c, 0, (none + (category == 1 ? "" : "9/0/" + category)).trim());
        }
        form("just one", "just one", "9/0/5");
        Catalog.promise(45, "for 7 and 8 both are taken as texts, so that a placeholder begins with \"{\" "
                + "and ends with \"}\".");
        form("{1}", "x{1}", "");
        form(" {1}", "{1}", "7/0/5");
        form("{1} ", "{1}", "7/0/5");
        form("a{1}", "{1}.", "8/0/5");
        form("{1}.", "a{1}", "8/0/5");
        form("{1}b", "a{1}", "");
        form("a{1}", "{1}b}}", "");
        form("{1:s5}", "a{1}", "");
        Catalog c = new Catalog();
        c.pad(" ").x.setText(1);
        list(c.merge("|{1:s5}||").form(0, 0, 5, "x{1}"), 0, "");
    }

    private static void properties() {
        Catalog.promise(46, "Returns a property of a problem.");
        Catalog.promise(46, "a locale");
        Catalog.promise(46, "the position of the problem, from 0");
        Catalog.promise(46, "0 which problem it is, 1 to 9; 1 its message; 2 its category");
        Catalog.promise(46, "Returns the property (NONE as described); NONE if there is no such problem.");
        Catalog c = new Catalog().rules(1, "many:n=1000;one:n=1;few:n=2");
        c.x.mark(1, 1, true);
        int[][] due = {{1, NONE, 4}, {2, 0, NONE}, {3, 1, 4}, {3, 1, 5}, {4, 1, NONE}, {2, 2, NONE}};
        for (int i = 0; i < due.length; i++) {
            for (int what = 0; what < 3; what++) {
                int position = i;
                int property = what;
                c.due("property " + what + " of " + i, due[i][what], () -> c.x.problem(1, position, property));
            }
        }
        for (int wrong : new int[] {-1, due.length, Integer.MIN_VALUE, Integer.MAX_VALUE}) {
            for (int what = 0; what < 3; what++) {
                int property = what;
                c.due("property " + what + " of " + wrong, NONE, () -> c.x.problem(1, wrong, property));
            }
        }
        c.due("of none at all", NONE, () -> c.x.problem(0, 0, 0));
    }
}
