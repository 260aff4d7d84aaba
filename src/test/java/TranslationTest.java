/** Promises 29 to 36: check, translate, untranslate, mark, state, forms, total. */
final class TranslationTest {
    private static final int NONE = -1;

    public static void main(String[] args) {
        arguments();
        checks();
        placeholderZero();
        limits();
        translating();
        untranslating();
        marking();
        states();
        Catalog.end();
    }

    private static void arguments() {
        Catalog c = new Catalog().pad("x");
        int[][] wrong = {{-1, 0}, {2, 0}, {0, -1}, {0, 3}, {Integer.MAX_VALUE, 0}, {0, Integer.MIN_VALUE}};
        for (int[] pair : wrong) {
            int l = pair[0];
            int m = pair[1];
            String of = " of " + l + " " + m;
            c.due("check" + of, Catalog.BOUNDS, () -> c.x.check(l, m, 6));
            c.due("translate" + of, Catalog.BOUNDS, () -> c.x.translate(l, m, 6));
            c.due("untranslate" + of, Catalog.BOUNDS, () -> c.x.untranslate(l, m));
            c.due("mark" + of, Catalog.BOUNDS, () -> c.x.mark(l, m, true));
            c.due("state" + of, Catalog.BOUNDS, () -> c.x.state(l, m));
            c.due("formCharacter" + of, Catalog.BOUNDS, () -> c.x.formCharacter(l, m, 6, 0));
            c.due("formWidth" + of, Catalog.BOUNDS, () -> c.x.formWidth(l, m, 6));
        }
        for (int category : new int[] {-1, 6, Integer.MIN_VALUE, Integer.MAX_VALUE}) {
            c.due("check " + category, Catalog.ARGUMENT, () -> c.x.check(0, 0, category));
            c.due("translate " + category, Catalog.ARGUMENT, () -> c.x.translate(0, 0, category));
            c.due("formCharacter " + category, Catalog.ARGUMENT, () -> c.x.formCharacter(0, 0, category, 0));
            c.due("formWidth " + category, Catalog.ARGUMENT, () -> c.x.formWidth(0, 0, category));
        }
        c.due("total 4", Catalog.ARGUMENT, () -> c.x.total(0, 4));
        c.due("total -1", Catalog.ARGUMENT, () -> c.x.total(0, -1));
        c.due("total of no locale", Catalog.BOUNDS, () -> c.x.total(2, 4));
        c.due("total of no locale below", Catalog.BOUNDS, () -> c.x.total(-1, 0));
    }

    private static void check(Catalog c, String pad, int locale, int message, int category, int due) {
        c.pad(pad);
        String what = "\"" + pad + "\" as " + locale + " " + message + " " + category;
        c.due("check " + what, due, () -> c.x.check(locale, message, category));
        if (due != 0) {
            c.due("translate " + what, Catalog.ARGUMENT, () -> c.x.translate(locale, message, category));
        }
    }

    private static void checks() {
        Catalog c = new Catalog();
        check(c, "x", 0, 0, 5, 0);
        check(c, "x", 0, 0, 1, 1);
        check(c, "x", 0, 1, 3, 1);
        check(c, "}", 0, 1, 3, 1);
        check(c, "x", 1, 1, 4, 1);
        check(c, "", 0, 0, 5, 2);
        check(c, "}", 0, 0, 5, 2);
        check(c, "a|", 0, 0, 5, 2);
        check(c, "{1:s9}", 0, 2, 5, 2);
        check(c, "{0}{", 0, 2, 5, 2);
        check(c, "{0}", 0, 0, 5, 3);
        check(c, "{0}", 0, 2, 5, 3);
        check(c, "{0}{1}", 0, 2, 5, 3);
        check(c, "x", 0, 2, 5, 4);
        check(c, "{1}", 0, 2, 5, 0);
        check(c, "{1}{1}{1}", 0, 2, 5, 0);
        check(c, "{{1}}", 0, 2, 5, 4);
        // One covers just the number 1 in locale 0, but many numbers in locale 1.
        check(c, "eine", 0, 1, 1, 0);
        check(c, "eine", 0, 1, 5, 4);
        check(c, "eine", 1, 1, 1, 4);
        check(c, "{0}", 1, 1, 1, 0);
    }

    private static void placeholderZero() {
        Catalog c = new Catalog().merge("|{0:d6} {1}|{1} {0}|\n|{0}||\n|x|y|\n|x|{0}|");
        check(c, "{1}", 0, 0, 1, 0);
        check(c, "{0}", 0, 0, 1, 4);
        check(c, "x", 0, 1, 5, 4);
        check(c, "x", 0, 2, 5, 0);
        check(c, "{0}", 0, 2, 1, 3);
        check(c, "x", 0, 3, 1, 0);
        check(c, "x", 0, 3, 5, 4);
        // A category that covers none of the numbers, and one that covers two.
        c.rules(0, "many: n = 1000..2000; few: n = 1..2");
        check(c, "x", 0, 3, 4, 0);
        check(c, "x", 0, 3, 3, 4);
        c.rules(0, "many: n = 999..2000");
        check(c, "x", 0, 3, 4, 0);
        c.rules(0, "many: n = 998..2000");
        check(c, "x", 0, 3, 4, 4);
        // Other, when it is left with one number.
        c.rules(0, "many: n != 7");
        check(c, "x", 0, 3, 5, 0);
    }

    private static void limits() {
        Catalog c = new Catalog();
        check(c, "12345678", 0, 0, 5, 0);
        check(c, "123456789", 0, 0, 5, 5);
        check(c, "{0} 123456789", 0, 1, 5, 0);
        check(c, "{0} 1234567890", 0, 1, 5, 5);
        check(c, "{0}{0} 123", 0, 1, 5, 0);
        check(c, "{0}{0} 1234", 0, 1, 5, 5);
        check(c, "{{}}{{}}{{}}{{}}", 0, 0, 5, 0);
        check(c, "{{}}{{}}{{}}{{}}{{", 0, 0, 5, 5);
        c.x.setWidth('1', 2);
        check(c, "12345678", 0, 0, 5, 5);
        c.x.setWidth('2', 0);
        check(c, "12345678", 0, 0, 5, 0);
        // The width of a placeholder's digits does not count for a form.
        c.x.setWidth('{', 2);
        c.x.setWidth('0', 2);
        check(c, "{0} 345678900", 0, 1, 5, 5);
        check(c, "{0} 345678345", 0, 1, 5, 0);
        Catalog d = new Catalog().merge("|{1}||10\n|{1:s11}||10\n|" + "a".repeat(60) + "||");
        check(d, "{1}", 0, 0, 5, 0);
        check(d, "{1}a", 0, 0, 5, 5);
        check(d, "{1}", 0, 1, 5, 5);
        check(d, "b".repeat(60), 0, 2, 5, 0);
    }

    private static void translating() {
        Catalog c = new Catalog();
        c.pad("{0} fajlova");
        c.due("the last one", 0, () -> c.x.translate(1, 1, 5));
        Catalog.text("form", "{0} fajlova", c.formText(1, 1, 5));
        c.due("the pad stays", 11, () -> c.x.clearPad());
        c.due("state", 3, () -> c.x.state(1, 1));
        c.x.untranslate(1, 1);
        c.pad("{0}");
        c.due("two left", 2, () -> c.x.translate(1, 1, 3));
        c.due("one left", 1, () -> c.x.translate(1, 1, 1));
        c.due("the same again", 1, () -> c.x.translate(1, 1, 1));
        c.x.mark(1, 1, true);
        c.pad("{0} neu");
        c.due("another", 1, () -> c.x.translate(1, 1, 1));
        c.due("the mark is gone", 0, () -> c.x.mark(1, 1, false));
        c.x.mark(0, 1, true);
        c.due("translate again", 0, () -> c.x.translate(1, 1, 5));
        c.due("the other locale's mark stays", 2, () -> c.x.state(0, 1));
        c.due("character", 'n', () -> c.x.formCharacter(1, 1, 1, 4));
        c.due("the last character", 'u', () -> c.x.formCharacter(1, 1, 1, 6));
        c.due("behind", NONE, () -> c.x.formCharacter(1, 1, 1, 7));
        c.due("before", NONE, () -> c.x.formCharacter(1, 1, 1, -1));
        c.due("no such form", NONE, () -> c.x.formCharacter(1, 1, 2, 0));
        c.due("no such form in the message", NONE, () -> c.x.formCharacter(0, 0, 1, 0));
        c.due("width", 10, () -> c.x.formWidth(1, 1, 1));
        c.due("no width", NONE, () -> c.x.formWidth(1, 1, 2));
        c.due("no width without forms", NONE, () -> c.x.formWidth(1, 0, 5));
        c.x.setWidth('n', 0);
        c.due("width with another character", 9, () -> c.x.formWidth(1, 1, 1));
        c.x.setWidth(' ', 2);
        c.due("width with a wide space", 10, () -> c.x.formWidth(1, 1, 1));
        // The first category and the last one, in the first locale and the last one.
        Catalog d = new Catalog();
        d.x.addLocale(NONE);
        d.x.addLocale(NONE);
        for (int locale : new int[] {0, 3}) {
            d.rules(locale, "zero: n = 0; many: n = 5");
            d.form(locale, 1, 0, "zero" + locale).form(locale, 1, 5, "{0}" + locale).form(locale, 1, 4, "many" + locale);
        }
        for (int locale : new int[] {0, 3}) {
            Catalog.text("zero", "zero" + locale, d.formText(locale, 1, 0));
            Catalog.text("many", "many" + locale, d.formText(locale, 1, 4));
            Catalog.text("other", "{0}" + locale, d.formText(locale, 1, 5));
            d.due("ready", 3, () -> d.x.state(locale, 1));
            d.due("three forms", 3, () -> d.x.untranslate(locale, 1));
        }
    }

    private static void untranslating() {
        Catalog c = new Catalog();
        c.x.mark(1, 1, true);
        c.due("two forms", 2, () -> c.x.untranslate(1, 1));
        c.due("none left", Catalog.STATE, () -> c.x.untranslate(1, 1));
        c.due("none there", Catalog.STATE, () -> c.x.untranslate(1, 0));
        Catalog.text("gone", "", c.formText(1, 1, 1));
        Catalog.text("the other locale's stay", "{0} Datei", c.formText(0, 1, 1));
        c.form(1, 1, 1, "{0}");
        c.due("the mark is gone", 0, () -> c.x.mark(1, 1, true));
        c.x.undo();
        c.x.undo();
        c.x.undo();
        c.due("marked again after undo", 1, () -> c.x.mark(1, 1, true));
    }

    private static void marking() {
        Catalog c = new Catalog();
        c.due("first", 0, () -> c.x.mark(0, 0, true));
        c.due("again", 1, () -> c.x.mark(0, 0, true));
        c.due("off", 1, () -> c.x.mark(0, 0, false));
        c.due("off again", 0, () -> c.x.mark(0, 0, false));
        c.due("no form", Catalog.STATE, () -> c.x.mark(1, 0, true));
        c.due("no form, off", Catalog.STATE, () -> c.x.mark(1, 0, false));
        Catalog.same("undoable each time", 3, c.x.undo());
        Catalog.same("undoable each time, twice", 2, c.x.undo());
        c.due("back", 1, () -> c.x.mark(0, 0, true));
    }

    private static void states() {
        Catalog c = new Catalog();
        c.due("missing", 0, () -> c.x.state(1, 0));
        c.due("partial", 1, () -> c.x.state(1, 1));
        c.due("ready", 3, () -> c.x.state(0, 1));
        c.x.mark(1, 1, true);
        c.due("partial though marked", 1, () -> c.x.state(1, 1));
        c.x.mark(0, 1, true);
        c.due("marked", 2, () -> c.x.state(0, 1));
        int[][] totals = {{0, 0, 1, 2}, {2, 1, 0, 0}};
        for (int l = 0; l < 2; l++) {
            for (int s = 0; s < 4; s++) {
                int locale = l;
                int state = s;
                c.due("total " + l + " " + s, totals[l][s], () -> c.x.total(locale, state));
            }
        }
        c.rules(1, "one: n = 1; few: n = 2");
        c.x.undo();
        c.rules(1, "few: n = 2");
        c.due("still partial", 1, () -> c.x.state(1, 1));
        // A rule whose category is new makes a ready message partial.
        c.x.mark(0, 1, false);
        c.rules(0, "one: n = 1; two: n = 2");
        c.due("partial now", 1, () -> c.x.state(0, 1));
    }
}
