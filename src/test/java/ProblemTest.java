/** Promises 45 and 46: problems, problem. */
final class ProblemTest {
    private static final int NONE = -1;

    public static void main(String[] args) {
        calls();
        order();
        ruleProblems();
        fitsAndLimits();
        spaces();
        lastCharacters();
        sameTexts();
        Catalog.end();
    }

    private static void calls() {
        Catalog c = new Catalog();
        c.due("locale 0", 0, () -> c.x.problems(0));
        c.due("locale 1", 3, () -> c.x.problems(1));
        Catalog.text("locale 1", "2/0/-1 3/1/5 2/2/-1", c.problemList(1));
        for (int locale : new int[] {-1, 2, Integer.MAX_VALUE}) {
            c.due("problems " + locale, Catalog.BOUNDS, () -> c.x.problems(locale));
            c.due("problem " + locale, Catalog.BOUNDS, () -> c.x.problem(locale, 0, 3));
        }
        c.due("what 3", Catalog.ARGUMENT, () -> c.x.problem(1, 0, 3));
        c.due("what -1", Catalog.ARGUMENT, () -> c.x.problem(1, 9, -1));
        for (int i : new int[] {-1, 3, Integer.MIN_VALUE, Integer.MAX_VALUE}) {
            for (int what = 0; what < 3; what++) {
                int property = what;
                c.due("problem " + i + " " + what, NONE, () -> c.x.problem(1, i, property));
            }
        }
        Catalog none = new Catalog().merge("|a||").form(0, 0, 5, "b");
        Catalog.text("none", "", none.problemList(0));
    }

    private static void order() {
        Catalog c = new Catalog();
        c.x.mark(1, 1, true);
        c.form(1, 1, 3, "{0} files");
        c.x.mark(1, 1, true);
        c.form(1, 2, 5, " {1}!");
        c.x.setWidth('l', 2);
        c.x.setWidth('f', 2);
        c.x.setWidth('s', 2);
        c.x.setWidth('i', 2);
        c.x.setWidth('e', 2);
        c.rules(1, "many: n = 1 and n = 2; few: n = 2..3; one: n = 1; zero: n = 5000");
        Catalog.text("all kinds", "1/-1/4 1/-1/0 2/0/-1 3/1/4 3/1/0 3/1/5 4/1/-1 6/1/3 9/1/3 7/2/5 8/2/5",
                c.problemList(1));
        c.x.untranslate(1, 1);
        Catalog.text("nothing else", "1/-1/4 1/-1/0 2/0/-1 2/1/-1 7/2/5 8/2/5", c.problemList(1));
    }

    private static void ruleProblems() {
        Catalog c = new Catalog().merge("|a|b|");
        c.rules(0, "one: n = 1; two: n = 1; few: n = 1000; many: n = 999; zero: n != 0..9999 or n = 0 and n != 0");
        Catalog.text("rules", "1/-1/2 1/-1/3 1/-1/0 2/0/-1", c.problemList(0));
        // Other is no rule, though it may cover nothing.
        c.rules(0, "one: n = 0..9999");
        Catalog.text("other", "2/0/-1", c.problemList(0));
    }

    private static void fitsAndLimits() {
        Catalog c = new Catalog().form(0, 1, 1, "eine Datei");
        Catalog.text("fits", "", c.problemList(0));
        c.rules(0, "one: n = 1..2");
        Catalog.text("does not fit", "5/1/1", c.problemList(0));
        c.rules(0, "one: n = 1");
        c.x.setWidth('e', 2);
        Catalog.text("wide, but not too wide", "", c.problemList(0));
        c.x.setWidth('i', 2);
        Catalog.text("too wide", "6/1/5", c.problemList(0));
        c.x.setWidth('a', 2);
        c.x.setWidth('D', 2);
        c.rules(0, "one: n = 1..2");
        Catalog.text("both", "5/1/1 6/1/1 6/1/5", c.problemList(0));
    }

    private static void form(String template, String form, int category, String due) {
        Catalog c = new Catalog();
        c.x.setThreshold(0);
        c.merge(template);
        c.form(0, 0, category, form);
        String all = c.problemList(0);
        String missing = c.x.length(0, 2) == 0 ? "" : category == 1 ? "3/0/5" : "3/0/1";
        String found = all.startsWith(missing) ? all.substring(missing.length()).trim() : all;
        Catalog.text(form + " for " + template, due, found);
    }

    private static void spaces() {
        form("|a||", "b", 5, "");
        form("| a||", " b", 5, "");
        form("| a||", "b", 5, "7/0/5");
        form("|a||", " b", 5, "7/0/5");
        form("|a ||", "b ", 5, "");
        form("|a ||", "b", 5, "7/0/5");
        form("|a||", "b ", 5, "7/0/5");
        form("| a||", "b ", 5, "7/0/5");
        form("| ||", " x", 5, "7/0/5");
        form("|a{1}||", "{1}b ", 5, "7/0/5");
        // A plural message: the source pattern for one, otherwise the plural pattern.
        form("| a|b|", " x", 1, "");
        form("| a|b|", " x", 5, "7/0/5");
        form("| a|b|", "x", 5, "");
        form("| a|b|", "x", 1, "7/0/1");
    }

    private static void lastCharacters() {
        form("|a.||", "b.", 5, "");
        form("|a.||", "b", 5, "8/0/5");
        form("|a||", "b.", 5, "8/0/5");
        form("|a||", "b!", 5, "8/0/5");
        form("|a||", "b?", 5, "8/0/5");
        form("|a||", "b:", 5, "8/0/5");
        form("|a!||", "b?", 5, "8/0/5");
        form("|a:||", "b", 5, "8/0/5");
        form("|a;||", "b,", 5, "");
        form("|a.||", "b. ", 5, "7/0/5 8/0/5");
        form("|a {1}||", "{1} b.", 5, "8/0/5");
        form("|a {1}||", "{1} b}}", 5, "");
        form("|a.|b|", "x.", 1, "");
        form("|a.|b|", "x.", 5, "8/0/5");
        form("|.|.|", ".", 5, "9/0/5");
    }

    private static void sameTexts() {
        form("|abc||", "abc", 5, "9/0/5");
        form("|abc||", "abC", 5, "");
        form("|abc||", "abcd", 5, "");
        form("|abc||", "ab", 5, "");
        form("|a{1:s7}{{||", "a{1}{{", 5, "9/0/5");
        form("|a{0:s7}||", "a{0}", 5, "9/0/5");
        form("|a{1:s7}{2}||", "a{2}{1}", 5, "");
        form("|a{1:s7}{2}{1}||", "a{1}{2}{1}", 5, "9/0/5");
        form("|p{{1}}{1:s7}||", "p{{1}}{1}", 5, "9/0/5");
        form("|a|b|", "a", 1, "9/0/1");
        form("|a|b|", "a", 5, "");
        form("|a|b|", "b", 5, "9/0/5");
        form("|a|b|", "b", 1, "");
    }
}
