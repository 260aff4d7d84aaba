/** The edges of locales, their numbers and categories, of widths and of the threshold. */
final class LocaleEdgeTest {
    private static final int NONE = -1;

    public static void main(String[] args) {
        fourLocales();
        parentChains();
        separatorAndSize();
        adding();
        settingParents();
        settingRules();
        lostForms();
        lostMarks();
        settingGrouping();
        lookingAtLocales();
        askingForCategories();
        positions();
        zeroTo999();
        widths();
        threshold();
        Catalog.end();
    }

    private static void fourLocales() {
        Catalog.term("LOCALES AND PLURAL RULES", "There are at most 4 locales, numbered from 0.");
        Catalog c = new Catalog();
        c.due("two at first", 2, () -> c.x.locales());
        c.due("the third", 2, () -> c.x.addLocale(NONE));
        c.due("three", 3, () -> c.x.locales());
        c.due("no fourth yet", Catalog.BOUNDS, () -> c.x.parent(3));
        c.due("the fourth", 3, () -> c.x.addLocale(NONE));
        c.due("the fifth", Catalog.STATE, () -> c.x.addLocale(NONE));
        c.due("four", 4, () -> c.x.locales());
        c.due("the last number", NONE, () -> c.x.parent(3));
        c.due("the number behind it", Catalog.BOUNDS, () -> c.x.parent(4));
        c.due("the first number", NONE, () -> c.x.parent(0));
        c.due("the number before it", Catalog.BOUNDS, () -> c.x.parent(-1));
        c.x.undo();
        c.due("room again", 3, () -> c.x.addLocale(NONE));
    }

    /** Locale 3 with the parents 2, 1 and 0, in this order. */
    private static Catalog chain() {
        Catalog c = new Catalog();
        c.x.addLocale(1);
        c.x.addLocale(2);
        return c;
    }

    private static void parentChains() {
        Catalog.term("LOCALES AND PLURAL RULES", "A locale has a parent, which is another locale or NONE; "
                + "following parents never leads back to the same locale.");
        Catalog c = chain();
        for (int locale = 0; locale < 4; locale++) {
            for (int parent = locale; parent < 4; parent++) {
                int from = locale;
                int to = parent;
                c.due("parent " + to + " of " + from, Catalog.ARGUMENT, () -> c.x.setParent(from, to));
            }
        }
        for (int locale = 1; locale < 4; locale++) {
            int from = locale;
            c.due("a parent that is farther", locale - 1, () -> c.x.setParent(from, 0));
        }
        c.due("0 is free no more", Catalog.ARGUMENT, () -> c.x.setParent(0, 3));
        c.due("but the others are", 0, () -> c.x.setParent(1, 3));
        c.due("1 to 3 to 0", Catalog.ARGUMENT, () -> c.x.setParent(3, 1));
        c.due("3 lets go", 0, () -> c.x.setParent(3, NONE));
        c.due("0 to 1 to 3", NONE, () -> c.x.setParent(0, 1));
        c.due("2 to 0 to 1 to 3 stays", 0, () -> c.x.parent(2));
        c.due("all in one chain", Catalog.ARGUMENT, () -> c.x.setParent(3, 2));
    }

    private static void separatorAndSize() {
        Catalog.term("LOCALES AND PLURAL RULES",
                "It has a separator (0 for none, or a character code) and a group size (1 to 4) for numbers.");
        String[] due = {"1,2,3,4,5", "1,23,45", "12,345", "1,2345"};
        Catalog c = new Catalog().merge("|{0:d40}||").form(0, 0, 5, "{0}");
        c.x.setNumber(0, 12345);
        for (int size = 1; size <= 4; size++) {
            c.x.setGrouping(0, ',', size);
            c.x.show(0, 0, 0);
            Catalog.text("size " + size, due[size - 1], c.shown());
        }
        c.x.setGrouping(0, 0, 1);
        c.x.show(0, 0, 0);
        Catalog.text("none", "12345", c.shown());
    }

    private static void adding() {
        Catalog.promise(5, "Adds a locale without plural rules, without a separator, with the group size 3. Undoable.");
        Catalog.promise(5, "its parent, or NONE");
        Catalog.promise(5, "Returns the number of the new locale.");
        Catalog c = new Catalog();
        c.due("number", 2, () -> c.x.addLocale(0));
        c.due("parent", 0, () -> c.x.parent(2));
        c.due("first category", 5, () -> c.x.categoryAt(2, 0));
        c.due("second category", NONE, () -> c.x.categoryAt(2, 1));
        c.due("separator and size", 3, () -> c.x.setGrouping(2, 0, 3));
        c.due("no form", 0, () -> c.x.state(2, 1));
        c.x.undo();
        c.due("undone", 0, () -> c.x.undo());
        c.due("two again", 2, () -> c.x.locales());
        c.due("without a parent", 2, () -> c.x.addLocale(NONE));
        c.due("NONE", NONE, () -> c.x.parent(2));
    }

    private static void settingParents() {
        Catalog.promise(6, "Sets the parent of a locale. Undoable.");
        Catalog.promise(6, "a locale");
        Catalog.promise(6, "the new parent, or NONE");
        Catalog.promise(6, "Returns the previous parent, or NONE.");
        Catalog c = chain();
        c.due("none before", NONE, () -> c.x.setParent(0, NONE));
        c.due("one before", 2, () -> c.x.setParent(3, NONE));
        c.due("none", NONE, () -> c.x.parent(3));
        c.due("the last locale as a parent", NONE, () -> c.x.setParent(0, 3));
        c.due("is it", 3, () -> c.x.parent(0));
        c.x.undo();
        c.x.undo();
        c.due("undone", 2, () -> c.x.parent(3));
    }

    private static void settingRules() {
        Catalog.promise(7, "Reads the pad as the plural rules of a locale.");
        Catalog.promise(7, "a locale");
        Catalog.promise(7, "Returns the number of rules.");
        String[] rules = {"", "   ", "two:n=1", "two:n=1 or n=2;zero:n=3,4", "many:n=1;zero:n=2;one:n=3;few:n=4;two:n=5"};
        int[] due = {0, 0, 1, 2, 5};
        for (int i = 0; i < rules.length; i++) {
            Catalog c = new Catalog().pad(rules[i]);
            c.due(rules[i], due[i], () -> c.x.setRules(1));
            int last = due[i];
            c.due("other is the last one", 5, () -> c.x.categoryAt(1, last));
            c.due("nothing behind it", NONE, () -> c.x.categoryAt(1, last + 1));
            c.due("the other locale stays", 1, () -> c.x.categoryAt(0, 0));
        }
    }

    /** Message 0 with a form for each of the six categories in locale 0, also the first one and the last one. */
    private static Catalog sixForms() {
        Catalog c = new Catalog().merge("|a|b|\n|c||\n|d|e|");
        c.rules(0, "zero:n=0;one:n=1;two:n=2;few:n=3;many:n=4").rules(1, "zero:n=0;one:n=1");
        for (int category = 0; category < 6; category++) {
            c.form(0, 0, category, "f" + category).form(0, 2, category, "g" + category);
        }
        return c.form(1, 0, 0, "h").form(0, 1, 5, "i");
    }

    private static void lostForms() {
        Catalog.promise(7, "For all plural messages, also the obsolete ones, forms of categories "
                + "that are not categories of the locale any more are removed;");
        String[] names = {"zero", "one", "two", "few", "many"};
        for (int kept = 0; kept < 5; kept++) {
            Catalog c = sixForms().rules(0, names[kept] + ":n=7");
            for (int message : new int[] {0, 2}) {
                for (int category = 0; category < 6; category++) {
                    String form = (message == 0 ? "f" : "g") + category;
                    Catalog.text(names[kept] + ", " + form, category == kept || category == 5 ? form : "",
                            c.formText(0, message, category));
                }
            }
            Catalog.text("the other locale", "h", c.formText(1, 0, 0));
            Catalog.text("no plural message", "i", c.formText(0, 1, 5));
        }
        Catalog none = sixForms().rules(0, "");
        Catalog.same("other alone", 1, none.x.untranslate(0, 0));
        Catalog same = sixForms().rules(0, "many:n=9;few:n=8;two:n=7;one:n=6;zero:n=5");
        Catalog.same("all six", 6, same.x.untranslate(0, 2));
        // Obsolete ones: they come back with the forms that are left.
        Catalog d = sixForms();
        d.x.setThreshold(0);
        d.merge("|new||").rules(0, "zero:n=0;many:n=4").merge("|d|e|\n|c||\n|a|b|");
        Catalog.text("zero of an obsolete one", "g0", d.formText(0, 0, 0));
        Catalog.text("one of an obsolete one", "", d.formText(0, 0, 1));
        Catalog.text("many of an obsolete one", "f4", d.formText(0, 2, 4));
        Catalog.text("other of an obsolete one", "f5", d.formText(0, 2, 5));
        Catalog.same("three forms of an obsolete one", 3, d.x.untranslate(0, 2));
        Catalog.text("no plural message, obsolete", "i", d.formText(0, 1, 5));
        Catalog.text("the other locale, obsolete", "h", d.formText(1, 2, 0));
    }

    /** A marked plural message in locale 1 that has just one form there, for zero. */
    private static Catalog justZero(boolean marked, boolean obsolete) {
        Catalog c = new Catalog().merge("|a|b|").rules(1, "zero:n=0");
        c.form(1, 0, 0, "x").form(0, 0, 5, "y");
        c.x.mark(1, 0, marked);
        c.x.setThreshold(0);
        return obsolete ? c.merge("|new||") : c;
    }

    private static void lostMarks() {
        Catalog.promise(7, "a message that has no form left there is not marked any more. Undoable.");
        for (boolean obsolete : new boolean[] {false, true}) {
            long due = justZero(false, obsolete).rules(1, "one:n=0").x.checksum();
            Catalog c = justZero(true, obsolete);
            long before = c.x.checksum();
            c.rules(1, "one:n=0");
            Catalog.same("no mark is left, obsolete: " + obsolete, due, c.x.checksum());
            c.x.undo();
            // The last number of a checksum is that of the saved states, one less than before.
            Catalog.same("undone", before - 1, c.x.checksum());
            c.rules(1, "one:n=0").rules(1, "zero:n=0");
            due = justZero(false, obsolete).rules(1, "one:n=0").rules(1, "zero:n=0").x.checksum();
            Catalog.same("it does not come back", due, c.x.checksum());
            // One that keeps its form keeps its mark.
            long marked = justZero(true, obsolete).rules(1, "zero:n=7").x.checksum();
            long unmarked = justZero(false, obsolete).rules(1, "zero:n=7").x.checksum();
            Catalog.same("the mark stays, obsolete: " + obsolete, 1, marked != unmarked ? 1 : 0);
        }
    }

    private static void settingGrouping() {
        Catalog.promise(8, "Sets how numbers are grouped in a locale. Undoable.");
        Catalog.promise(8, "0 for none, or a character code from 32 to 126 other than that of a digit or of \"-\"");
        Catalog.promise(8, "the group size, 1 to 4");
        Catalog.promise(8, "a locale");
        Catalog.promise(8, "Returns 10 * the previous separator + the previous group size.");
        Catalog c = new Catalog();
        c.due("the first of locale 0", 463, () -> c.x.setGrouping(0, 126, 4));
        c.due("then", 1264, () -> c.x.setGrouping(0, 32, 1));
        c.due("then again", 321, () -> c.x.setGrouping(0, 0, 2));
        c.due("none", 2, () -> c.x.setGrouping(0, 46, 3));
        c.due("the first of locale 1", 323, () -> c.x.setGrouping(1, 47, 3));
        c.due("beside the digits", 473, () -> c.x.setGrouping(1, 58, 3));
        c.due("on the other side", 583, () -> c.x.setGrouping(1, 44, 3));
        c.due("beside the sign", 443, () -> c.x.setGrouping(1, 46, 3));
        c.x.undo();
        c.due("undone", 443, () -> c.x.setGrouping(1, 46, 3));
        for (int separator : new int[] {-1, 1, 10, 31, '-', '0', '9', 127}) {
            c.due("separator " + separator, Catalog.ARGUMENT, () -> c.x.setGrouping(1, separator, 3));
        }
        for (int size : new int[] {-1, 0, 5}) {
            c.due("size " + size, Catalog.ARGUMENT, () -> c.x.setGrouping(1, 46, size));
        }
    }

    private static void lookingAtLocales() {
        Catalog.promise(9, "Returns the number of locales.");
        Catalog.promise(9, "Returns the number.");
        Catalog.promise(10, "Returns the parent of a locale.");
        Catalog.promise(10, "a locale");
        Catalog.promise(10, "Returns the parent, or NONE.");
        Catalog c = chain();
        c.due("locales", 4, () -> c.x.locales());
        for (int i = 0; i < 4; i++) {
            int locale = i;
            c.due("parent of " + i, i - 1, () -> c.x.parent(locale));
        }
    }

    private static void askingForCategories() {
        Catalog.promise(11, "Returns the category of a number in a locale.");
        Catalog.promise(11, "a locale");
        Catalog.promise(11, "the number");
        Catalog.promise(11, "Returns the category.");
        Catalog c = new Catalog().rules(0, "zero:n=0;many:n%10=7;few:n!=0..9999");
        c.due("0", 0, () -> c.x.category(0, 0));
        c.due("1", 5, () -> c.x.category(0, 1));
        c.due("7", 4, () -> c.x.category(0, 7));
        c.due("9999", 5, () -> c.x.category(0, 9999));
        c.due("10000", 3, () -> c.x.category(0, 10000));
        c.due("the greatest int", 4, () -> c.x.category(0, Integer.MAX_VALUE));
        c.due("the one before it", 3, () -> c.x.category(0, Integer.MAX_VALUE - 1));
        c.due("-1", Catalog.ARGUMENT, () -> c.x.category(0, -1));
        c.due("the other locale", 1, () -> c.x.category(1, 1));
    }

    private static void positions() {
        Catalog.promise(12, "Returns one of the categories of a locale, in their order (other is the last one).");
        Catalog.promise(12, "a locale");
        Catalog.promise(12, "its position, from 0");
        Catalog.promise(12, "Returns the category; NONE if there is no such position.");
        Catalog c = new Catalog();
        int[] due = {NONE, 1, 3, 5, NONE, NONE};
        for (int i = -1; i < 5; i++) {
            int at = i;
            c.due("position " + i, due[i + 1], () -> c.x.categoryAt(1, at));
        }
        c.due("the least", NONE, () -> c.x.categoryAt(1, Integer.MIN_VALUE));
        c.due("the greatest", NONE, () -> c.x.categoryAt(1, Integer.MAX_VALUE));
    }

    private static void zeroTo999() {
        Catalog.promise(13, "Counts the numbers from 0 to 999 that a category covers in a locale.");
        Catalog.promise(13, "a locale");
        Catalog.promise(13, "a category, 0 to 5");
        Catalog.promise(13, "Returns how many there are, 0 if it is no category of the locale.");
        int[][] due = {{0, 1}, {999, 1}, {1000, 0}, {9999, 0}};
        for (int[] pair : due) {
            Catalog c = new Catalog().rules(0, "one:n=" + pair[0]);
            c.due("one for " + pair[0], pair[1], () -> c.x.covered(0, 1));
            c.due("other without " + pair[0], 1000 - pair[1], () -> c.x.covered(0, 5));
            c.due("no category", 0, () -> c.x.covered(0, 0));
            c.due("no category again", 0, () -> c.x.covered(0, 4));
        }
        Catalog c = new Catalog().rules(0, "zero:n=0..9999");
        c.due("all", 1000, () -> c.x.covered(0, 0));
        c.due("none is left", 0, () -> c.x.covered(0, 5));
        c.due("none is left, again", 0, () -> c.x.covered(0, 5));
        c.rules(0, "zero:n=0..998");
        c.due("all but one", 999, () -> c.x.covered(0, 0));
        c.due("one is left", 1, () -> c.x.covered(0, 5));
        c.x.undo();
        c.due("all again", 1000, () -> c.x.covered(0, 0));
    }

    private static void widths() {
        Catalog.term("TRANSLATIONS", "Each character has a width from 0 to 2, which is 1 at first.");
        Catalog.promise(14, "Sets the width of a character. Undoable.");
        Catalog.promise(14, "its code, 32 to 126");
        Catalog.promise(14, "0 to 2");
        Catalog.promise(14, "Returns the previous width.");
        Catalog c = new Catalog().merge("|a||").form(0, 0, 5, "b");
        for (int code = 32; code <= 126; code++) {
            int each = code;
            c.due("at first " + code, 1, () -> c.x.setWidth(each, 0));
            c.due("0 " + code, 0, () -> c.x.setWidth(each, 2));
            c.due("2 " + code, 2, () -> c.x.setWidth(each, 1));
            c.due("1 " + code, 1, () -> c.x.setWidth(each, 1));
        }
        for (int width = 0; width <= 2; width++) {
            c.x.setWidth('a', 2 - width);
            c.x.setWidth('b', width);
            int due = width;
            c.due("width " + width, due, () -> c.x.formWidth(0, 0, 5));
        }
        c.x.undo();
        c.due("undone", 1, () -> c.x.formWidth(0, 0, 5));
        c.due("3", Catalog.ARGUMENT, () -> c.x.setWidth('a', 3));
        c.due("-1", Catalog.ARGUMENT, () -> c.x.setWidth('a', -1));
        c.due("code 31", Catalog.ARGUMENT, () -> c.x.setWidth(31, 1));
        c.due("code 127", Catalog.ARGUMENT, () -> c.x.setWidth(127, 1));
    }

    private static void threshold() {
        Catalog.term("COST", "The threshold is 0 to 60, 30 at first.");
        Catalog.promise(15, "Sets the threshold. Undoable.");
        Catalog.promise(15, "the new threshold, 0 to 60");
        Catalog.promise(15, "Returns the previous threshold.");
        Catalog c = new Catalog();
        c.due("30", 30, () -> c.x.setThreshold(0));
        c.due("0", 0, () -> c.x.setThreshold(60));
        c.due("60", 60, () -> c.x.setThreshold(1));
        c.due("1", 1, () -> c.x.setThreshold(1));
        c.x.undo();
        c.x.undo();
        c.due("undone", 60, () -> c.x.setThreshold(5));
        c.due("61", Catalog.ARGUMENT, () -> c.x.setThreshold(61));
        c.due("-1", Catalog.ARGUMENT, () -> c.x.setThreshold(-1));
        c.due("still", 5, () -> c.x.setThreshold(5));
    }
}
