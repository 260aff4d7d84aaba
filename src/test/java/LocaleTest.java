/** Promises 5 to 15: locales, plural rules, widths, threshold. */
final class LocaleTest {
    private static final int NONE = -1;

    public static void main(String[] args) {
        adding();
        parents();
        rules();
        lostForms();
        lostMarks();
        grouping();
        categories();
        widths();
        threshold();
        Catalog.end();
    }

    private static void adding() {
        Catalog c = new Catalog();
        c.due("parent 2", Catalog.BOUNDS, () -> c.x.addLocale(2));
        c.due("parent -2", Catalog.BOUNDS, () -> c.x.addLocale(-2));
        c.due("first", 2, () -> c.x.addLocale(NONE));
        c.due("second", 3, () -> c.x.addLocale(2));
        c.due("locales", 4, () -> c.x.locales());
        c.due("full", Catalog.STATE, () -> c.x.addLocale(3));
        c.due("full, no such parent", Catalog.BOUNDS, () -> c.x.addLocale(4));
        c.due("parent of 2", NONE, () -> c.x.parent(2));
        c.due("parent of 3", 2, () -> c.x.parent(3));
        c.due("only other", 5, () -> c.x.categoryAt(3, 0));
        c.due("nothing else", NONE, () -> c.x.categoryAt(3, 1));
        c.due("all numbers", 1000, () -> c.x.covered(3, 5));
        c.due("no separator, size 3", 3, () -> c.x.setGrouping(3, 0, 3));
        for (int locale : new int[] {-1, 4, Integer.MIN_VALUE, Integer.MAX_VALUE}) {
            c.due("parent " + locale, Catalog.BOUNDS, () -> c.x.parent(locale));
        }
    }

    private static void parents() {
        Catalog c = new Catalog();
        c.x.addLocale(1);
        c.due("before", 1, () -> c.x.setParent(2, 0));
        c.due("then", 0, () -> c.x.parent(2));
        c.due("back", 0, () -> c.x.setParent(2, 1));
        c.due("itself", Catalog.ARGUMENT, () -> c.x.setParent(0, 0));
        c.due("a loop of two", Catalog.ARGUMENT, () -> c.x.setParent(0, 1));
        c.due("a loop of three", Catalog.ARGUMENT, () -> c.x.setParent(0, 2));
        c.due("the same again", 1, () -> c.x.setParent(2, 1));
        c.due("none", 0, () -> c.x.setParent(1, NONE));
        c.due("none before", NONE, () -> c.x.setParent(0, 2));
        c.due("a loop by way of locale 0", Catalog.ARGUMENT, () -> c.x.setParent(1, 0));
        c.form(2, 0, 5, "fin");
        c.x.untranslate(0, 0);
        c.x.show(0, 0, 0);
        Catalog.text("shown by way of locale 0", "fin", c.shown());
        c.due("no such locale", Catalog.BOUNDS, () -> c.x.setParent(3, NONE));
        c.due("no such locale below", Catalog.BOUNDS, () -> c.x.setParent(-1, NONE));
        c.due("no such parent", Catalog.BOUNDS, () -> c.x.setParent(0, 3));
        c.due("no such parent below", Catalog.BOUNDS, () -> c.x.setParent(0, -2));
        c.due("neither, the same number", Catalog.BOUNDS, () -> c.x.setParent(3, 3));
    }

    private static void rules() {
        Catalog c = new Catalog();
        c.pad("one: n = 1; few: n = 2..4, 6");
        c.due("two rules", 2, () -> c.x.setRules(0));
        c.due("no such locale", Catalog.BOUNDS, () -> c.x.setRules(2));
        c.pad("one: n = 1;");
        c.due("a fault", Catalog.ARGUMENT, () -> c.x.setRules(0));
        c.due("no such locale comes first", Catalog.BOUNDS, () -> c.x.setRules(-1));
        int[] due = {5, 1, 3, 3, 3, 5, 3, 5};
        for (int i = 0; i < due.length; i++) {
            int n = i;
            c.due("category " + n, due[n], () -> c.x.category(0, n));
        }
        c.pad("");
        c.due("no rules", 0, () -> c.x.setRules(0));
        c.due("other alone", 5, () -> c.x.category(0, 1));
        // "and" binds more than "or"; the first rule that holds counts; ranges have both ends.
        c.rules(0, "many: n = 1 and n = 2 or n % 3 = 0 and n != 3, 9..12; zero: n = 0, 12..13; one: n != 5");
        int[] many = {4, 1, 1, 1, 1, 5, 4, 1, 1, 1, 1, 1, 0, 0, 1, 4};
        for (int i = 0; i < many.length; i++) {
            int n = i;
            c.due("second rules, category " + n, many[n], () -> c.x.category(0, n));
        }
        c.due("a large number", 4, () -> c.x.category(0, 2147483646));
        c.due("the largest number", 1, () -> c.x.category(0, Integer.MAX_VALUE));
        c.due("a negative number", Catalog.ARGUMENT, () -> c.x.category(0, -1));
        c.due("no such locale comes first too", Catalog.BOUNDS, () -> c.x.category(2, -1));
    }

    private static void lostForms() {
        Catalog c = new Catalog();
        c.x.mark(1, 1, true);
        c.x.mark(0, 1, true);
        c.x.mark(0, 0, true);
        c.rules(1, "few: n = 2; two: n = 7");
        Catalog.text("lost", "", c.formText(1, 1, 1));
        Catalog.text("kept", "{0} fajla", c.formText(1, 1, 3));
        Catalog.same("the mark stays with a form", 1, c.x.mark(1, 1, true));
        c.rules(1, "");
        c.due("no form left", 0, () -> c.x.state(1, 1));
        c.form(1, 1, 5, "{0} f");
        Catalog.same("no mark left", 0, c.x.mark(1, 1, false));
        c.rules(0, "");
        Catalog.text("other stays", "{0} Dateien", c.formText(0, 1, 5));
        Catalog.same("of no plural message", 1, c.x.mark(0, 0, false));
        Catalog.same("still marked with a form", 1, c.x.mark(0, 1, true));
        // An obsolete plural message, too; its mark goes with its last form.
        Catalog d = new Catalog();
        d.x.mark(1, 1, true);
        d.merge("|zzz||");
        Catalog.same("obsolete ones", 4, d.x.obsolete());
        d.rules(1, "zero: n = 0");
        d.rules(1, "one: n = 1; few: n = 2");
        d.merge("|{0:d6} file|{0:d6} files|");
        Catalog.same("origin", 3, d.x.origin(0));
        Catalog.same("no form in locale 1", 0, d.x.state(1, 0));
        Catalog.same("forms in locale 0", 3, d.x.state(0, 0));
        d.form(1, 0, 5, "{0} f");
        Catalog.same("not marked", 0, d.x.mark(1, 0, true));
    }

    /** Whether marks without forms stay behind: the checksum is another one then. */
    private static void lostMarks() {
        for (int call = 0; call < 2; call++) {
            long[] checksums = new long[2];
            for (int i = 0; i < 2; i++) {
                Catalog c = new Catalog();
                c.x.mark(1, 1, i == 0);
                for (int k = 0; k < 6; k++) {
                    c.x.setThreshold(9);
                }
                if (call == 0) {
                    c.rules(1, "");
                } else {
                    c.x.untranslate(1, 1);
                }
                checksums[i] = c.x.checksum();
            }
            Catalog.same("marks that stay, " + call, checksums[1], checksums[0]);
        }
    }

    private static void grouping() {
        Catalog c = new Catalog();
        c.due("before", 463, () -> c.x.setGrouping(0, ',', 2));
        c.due("then", 442, () -> c.x.setGrouping(0, 0, 1));
        c.due("none", 1, () -> c.x.setGrouping(0, 32, 4));
        c.due("126", 324, () -> c.x.setGrouping(0, 126, 4));
        c.due("beside digits", 1264, () -> c.x.setGrouping(0, '/', 4));
        c.due("behind digits", 474, () -> c.x.setGrouping(0, ':', 4));
        for (int separator : new int[] {-1, 1, 10, 31, '-', '0', '9', 127, 256}) {
            c.due("separator " + separator, Catalog.ARGUMENT, () -> c.x.setGrouping(0, separator, 3));
        }
        c.due("size 0", Catalog.ARGUMENT, () -> c.x.setGrouping(0, 0, 0));
        c.due("size 5", Catalog.ARGUMENT, () -> c.x.setGrouping(0, 0, 5));
        c.due("no such locale", Catalog.BOUNDS, () -> c.x.setGrouping(2, '-', 0));
        c.due("no such locale below", Catalog.BOUNDS, () -> c.x.setGrouping(-1, 0, 3));
    }

    private static void categories() {
        Catalog c = new Catalog();
        c.rules(0, "many: n = 1; zero: n = 0; one: n % 10 = 1");
        int[] order = {4, 0, 1, 5};
        for (int i = 0; i < 4; i++) {
            int at = i;
            c.due("categoryAt " + i, order[i], () -> c.x.categoryAt(0, at));
        }
        c.due("behind", NONE, () -> c.x.categoryAt(0, 4));
        c.due("before", NONE, () -> c.x.categoryAt(0, -1));
        c.due("far", NONE, () -> c.x.categoryAt(0, Integer.MAX_VALUE));
        c.due("no such locale", Catalog.BOUNDS, () -> c.x.categoryAt(2, 0));
        int[] covered = {1, 99, 0, 0, 1, 899};
        for (int i = 0; i < 6; i++) {
            int category = i;
            c.due("covered " + i, covered[i], () -> c.x.covered(0, category));
        }
        c.due("category 6", Catalog.ARGUMENT, () -> c.x.covered(0, 6));
        c.due("category -1", Catalog.ARGUMENT, () -> c.x.covered(0, -1));
        c.due("no such locale first", Catalog.BOUNDS, () -> c.x.covered(2, 6));
        c.rules(0, "one: n = 999..1000; two: n = 1000..2000");
        c.due("999 counts", 1, () -> c.x.covered(0, 1));
        c.due("1000 does not", 0, () -> c.x.covered(0, 2));
        c.x.setParent(0, NONE);
        c.due("other", 999, () -> c.x.covered(0, 5));
        c.x.undo();
        c.x.undo();
        c.due("after undo", 99, () -> c.x.covered(0, 1));
    }

    private static void widths() {
        Catalog c = new Catalog();
        c.due("first", 1, () -> c.x.setWidth(32, 0));
        c.due("second", 0, () -> c.x.setWidth(32, 2));
        c.due("third", 2, () -> c.x.setWidth(32, 2));
        c.due("last character", 1, () -> c.x.setWidth(126, 2));
        c.due("31", Catalog.ARGUMENT, () -> c.x.setWidth(31, 1));
        c.due("127", Catalog.ARGUMENT, () -> c.x.setWidth(127, 1));
        c.due("10", Catalog.ARGUMENT, () -> c.x.setWidth(10, 1));
        c.due("least", Catalog.ARGUMENT, () -> c.x.setWidth(Integer.MIN_VALUE, 1));
        c.due("width -1", Catalog.ARGUMENT, () -> c.x.setWidth(65, -1));
        c.due("width 3", Catalog.ARGUMENT, () -> c.x.setWidth(65, 3));
        Catalog.same("Ende", 4, c.x.formWidth(0, 0, 5));
        c.x.setWidth('E', 0);
        c.x.setWidth('e', 2);
        Catalog.same("Ende later", 4, c.x.formWidth(0, 0, 5));
        c.x.setWidth('n', 2);
        Catalog.same("Ende at last", 5, c.x.formWidth(0, 0, 5));
    }

    private static void threshold() {
        Catalog c = new Catalog();
        c.due("first", 30, () -> c.x.setThreshold(0));
        c.due("second", 0, () -> c.x.setThreshold(60));
        c.due("third", 60, () -> c.x.setThreshold(60));
        c.due("-1", Catalog.ARGUMENT, () -> c.x.setThreshold(-1));
        c.due("61", Catalog.ARGUMENT, () -> c.x.setThreshold(61));
    }
}
