/** The edges of translations: categories, states, which forms fit and are usable, check and translate. */
final class FormEdgeTest {
    private static final int NONE = -1;

    public static void main(String[] args) {
        categories();
        formsOfCategories();
        marks();
        states();
        fitting();
        atMostOneNumber();
        widthOfAForm();
        usable();
        stoppingToBeUsable();
        checking();
        firstThatApplies();
        translating();
        untranslating();
        marking();
        lookingAtStates();
        characters();
        formWidths();
        totals();
        Catalog.end();
    }

    /** What check() tells of a form. */
    private static void check(Catalog c, String form, int locale, int message, int category, int due) {
        c.pad(form);
        c.due("\"" + form + "\" as " + locale + " " + message + " " + category, due,
                () -> c.x.check(locale, message, category));
    }

    private static void categories() {
        Catalog.term("TRANSLATIONS", "The categories of a message in a locale are those of the locale "
                + "if it is a plural message, otherwise only other.");
        Catalog c = new Catalog().merge("|a|b|\n|c||").rules(1, "many:n=4;zero:n=0");
        for (int category = 0; category < 6; category++) {
            boolean plural = category == 0 || category == 4 || category == 5;
            check(c, "x", 1, 0, category, plural ? 0 : 1);
            check(c, "x", 1, 1, category, category == 5 ? 0 : 1);
        }
        c.x.addLocale(NONE);
        for (int category = 0; category < 6; category++) {
            check(c, "x", 2, 0, category, category == 5 ? 0 : 1);
        }
    }

    private static void formsOfCategories() {
        Catalog.term("TRANSLATIONS", "For each of these categories a message can have a form in the locale: "
                + "a pattern without declarations.");
        Catalog c = new Catalog().merge("|a|b|");
        c.x.addLocale(NONE);
        c.x.addLocale(NONE);
        String all = "zero:n=0;one:n=1;two:n=2;few:n=3;many:n=4";
        for (int locale = 0; locale < 4; locale++) {
            c.rules(locale, all);
            for (int category = 0; category < 6; category++) {
                c.form(locale, 0, category, "l" + locale + "c" + category);
            }
        }
        for (int locale = 0; locale < 4; locale++) {
            for (int category = 0; category < 6; category++) {
                Catalog.text("form", "l" + locale + "c" + category, c.formText(locale, 0, category));
            }
        }
        check(new Catalog(), "{1:s9}", 0, 2, 5, 2);
        check(new Catalog(), "{1}", 0, 2, 5, 0);
    }

    private static void marks() {
        Catalog.term("TRANSLATIONS", "In addition, the message can be marked for review in the locale.");
        Catalog c = new Catalog();
        c.x.mark(0, 1, true);
        c.due("in this locale", 2, () -> c.x.state(0, 1));
        c.due("not in the other one", 0, () -> c.x.mark(1, 1, false));
        c.due("not another message", 3, () -> c.x.state(0, 0));
    }

    private static void states() {
        Catalog.term("TRANSLATIONS", "The state of a message in a locale is 0 (missing) if it has no form there; "
                + "otherwise 1 (partial) if a form is missing for one of its categories; "
                + "otherwise 2 (marked) if it is marked; otherwise 3 (ready).");
        String[] names = {"zero", "one", "two", "few", "many"};
        for (int category = 0; category < 5; category++) {
            Catalog c = new Catalog().merge("|a|b|").rules(0, names[category] + ":n=7");
            c.due("missing", 0, () -> c.x.state(0, 0));
            c.form(0, 0, category, "x");
            c.due("other is missing", 1, () -> c.x.state(0, 0));
            c.x.mark(0, 0, true);
            c.due("marked, but other is missing", 1, () -> c.x.state(0, 0));
            c.form(0, 0, 5, "x");
            c.due("ready", 3, () -> c.x.state(0, 0));
            c.x.mark(0, 0, true);
            c.due("marked", 2, () -> c.x.state(0, 0));
            c.x.untranslate(0, 0);
            c.form(0, 0, 5, "x");
            c.due(names[category] + " is missing", 1, () -> c.x.state(0, 0));
            c.due("the other locale", 0, () -> c.x.state(1, 0));
        }
        Catalog d = new Catalog().merge("|a||");
        d.due("no plural message, missing", 0, () -> d.x.state(0, 0));
        d.form(0, 0, 5, "x");
        d.due("no plural message, ready", 3, () -> d.x.state(0, 0));
        d.x.mark(0, 0, true);
        d.due("no plural message, marked", 2, () -> d.x.state(0, 0));
    }

    private static void fitting() {
        Catalog.term("TRANSLATIONS", "A form fits if each of its placeholders is a placeholder of the message, "
                + "and each placeholder of the message occurs in it;");
        Catalog c = new Catalog().merge("|{0} {9}||\n|a||\n|{1}|{1}{2}|\n|{0}{1}|{0}{1}|");
        check(c, "{0}{9}", 0, 0, 5, 0);
        check(c, "{9} {0} {9}", 0, 0, 5, 0);
        check(c, "{0}", 0, 0, 5, 4);
        check(c, "{9}", 0, 0, 5, 4);
        check(c, "x", 0, 0, 5, 4);
        check(c, "{0}{9}{1}", 0, 0, 5, 3);
        check(c, "{0}{8}", 0, 0, 5, 3);
        check(c, "x", 0, 1, 5, 0);
        check(c, "{0}", 0, 1, 5, 3);
        check(c, "{{0}}", 0, 1, 5, 0);
        check(c, "{9}", 0, 1, 5, 3);
        // Of a plural message those of the plural pattern count, also for one.
        check(c, "{1}", 0, 2, 1, 4);
        check(c, "{1}{2}", 0, 2, 1, 0);
        check(c, "{1}{2}{0}", 0, 2, 1, 3);
        // Just placeholder 0 may be missing.
        check(c, "{1}", 0, 3, 1, 0);
        check(c, "{0}", 0, 3, 1, 4);
        check(c, "x", 0, 3, 1, 4);
        check(c, "{1}", 0, 3, 5, 4);
    }

    private static void atMostOneNumber() {
        Catalog.term("TRANSLATIONS", "but in a plural message placeholder 0 may be missing if the category of the form "
                + "covers at most one of the numbers 0 to 999 in the locale.");
        Catalog c = new Catalog().merge("|{0}|{0}|\n|{0}||");
        String[] none = {"n=1000", "n=9999", "n=1000..9999", "n=1 and n=2"};
        String[] one = {"n=0", "n=999", "n=999..1000", "n=999..9999", "n=5,5,5", "n=500 or n=2000", "n%1000=7"};
        String[] two = {"n=0,999", "n=0..1", "n=998..999", "n=998..9999", "n%500=7", "n!=0..997"};
        for (String rule : none) {
            check(c.rules(0, "many:" + rule), "x", 0, 0, 4, 0);
        }
        for (String rule : one) {
            check(c.rules(0, "many:" + rule), "x", 0, 0, 4, 0);
        }
        for (String rule : two) {
            check(c.rules(0, "many:" + rule), "x", 0, 0, 4, 4);
            check(c, "{0}", 0, 0, 4, 0);
        }
        // Other too, when one number is left, or none.
        check(c.rules(0, "many:n=0..998"), "x", 0, 0, 5, 0);
        check(c.rules(0, "many:n=0..999"), "x", 0, 0, 5, 0);
        check(c.rules(0, "many:n=0..997"), "x", 0, 0, 5, 4);
        // What another rule has taken is not covered.
        check(c.rules(0, "few:n=1;many:n=1..2"), "x", 0, 0, 4, 0);
        check(c.rules(0, "few:n=0;many:n=1..2"), "x", 0, 0, 4, 4);
        // In this locale, and in no message but a plural one.
        check(c.rules(0, "one:n=1").rules(1, "one:n=1..2"), "x", 0, 0, 1, 0);
        check(c, "x", 1, 0, 1, 4);
        c.rules(0, "many:n!=7");
        check(c, "x", 0, 0, 5, 0);
        check(c, "x", 0, 1, 5, 4);
    }

    private static void widthOfAForm() {
        Catalog.term("TRANSLATIONS", "The width of a form is the sum of the widths of its literal characters and, "
                + "for each occurrence of a placeholder, the width of the placeholder.");
        Catalog c = new Catalog().merge("|{1:s40}{2}{3:d1}||\n|a||");
        String[] forms = {"{1}{2}{3}", "{1}{2}{3}{3}", "{1}{2}{3}abc", "{1}{1}{2}{2}{3}", "{{{1}{2}{3}}}", "a{1}b{2}a{3}"};
        int[] due = {51, 52, 54, 101, 53, 54};
        for (int i = 0; i < forms.length; i++) {
            int width = due[i];
            c.form(0, 0, 5, forms[i]);
            c.due(forms[i], width, () -> c.x.formWidth(0, 0, 5));
        }
        c.x.setWidth('a', 2);
        c.x.setWidth('b', 0);
        c.due("a twice, b once", 55, () -> c.x.formWidth(0, 0, 5));
        // The digits and braces of a placeholder have no width of their own.
        for (char sign : "{}123".toCharArray()) {
            c.x.setWidth(sign, 2);
        }
        c.due("as before", 55, () -> c.x.formWidth(0, 0, 5));
        c.form(0, 1, 5, "{{}}1");
        c.due("literal ones have", 6, () -> c.x.formWidth(0, 1, 5));
        c.form(0, 1, 5, "x".repeat(60));
        c.due("60", 60, () -> c.x.formWidth(0, 1, 5));
        c.x.setWidth('x', 2);
        c.due("120", 120, () -> c.x.formWidth(0, 1, 5));
        c.x.setWidth('x', 0);
        c.due("0", 0, () -> c.x.formWidth(0, 1, 5));
    }

    private static void usable() {
        Catalog.term("TRANSLATIONS", "A form is usable if it fits and the message has no limit "
                + "or the width of the form is at most the limit.");
        Catalog c = new Catalog().merge("|a||5\n|b||\n|{1:d4}||5\n|c||1\n|d||200\n|e||60");
        check(c, "12345", 0, 0, 5, 0);
        check(c, "123456", 0, 0, 5, 5);
        check(c, "x".repeat(60), 0, 1, 5, 0);
        check(c, "{1}x", 0, 2, 5, 0);
        check(c, "{1}xx", 0, 2, 5, 5);
        check(c, "x", 0, 3, 5, 0);
        check(c, "xx", 0, 3, 5, 5);
        check(c, "x".repeat(60), 0, 4, 5, 0);
        check(c, "x".repeat(60), 0, 5, 5, 0);
        c.x.setWidth('x', 2);
        check(c, "xx1", 0, 0, 5, 0);
        check(c, "xxx", 0, 0, 5, 5);
        check(c, "x", 0, 3, 5, 5);
        check(c, "x".repeat(60), 0, 1, 5, 0);
        check(c, "x".repeat(60), 0, 4, 5, 0);
        check(c, "x".repeat(30), 0, 5, 5, 0);
        check(c, "x".repeat(31), 0, 5, 5, 5);
        c.x.setWidth('x', 0);
        check(c, "x".repeat(55) + "12345", 0, 0, 5, 0);
        check(c, "x".repeat(54) + "123456", 0, 0, 5, 5);
        Catalog d = new Catalog().merge("|" + "{1:s40}".repeat(5) + "||200");
        check(d, "{1}{1}{1}{1}{1}", 0, 0, 5, 0);
        check(d, "{1}{1}{1}{1}{1}x", 0, 0, 5, 5);
    }

    private static void stoppingToBeUsable() {
        Catalog.term("TRANSLATIONS",
                "(A form can stop being usable when plural rules, character widths or the limit change.)");
        Catalog rules = new Catalog().form(0, 1, 1, "eine");
        shows(rules, 1, 1, 0);
        rules.rules(0, "one:n=1..2");
        shows(rules, 1, 1, NONE);
        rules.rules(0, "one:n=1");
        shows(rules, 1, 1, 0);
        Catalog widths = new Catalog();
        shows(widths, 0, 0, 0);
        widths.x.setWidth('E', 2);
        widths.x.setWidth('n', 2);
        widths.x.setWidth('d', 2);
        widths.x.setWidth('e', 2);
        shows(widths, 0, 0, 0);
        Catalog limit = new Catalog().merge("|Quit||4");
        shows(limit, 0, 0, 0);
        limit.merge("|Quit||3");
        shows(limit, 0, 0, NONE);
        limit.merge("|Quit||");
        shows(limit, 0, 0, 0);
        Catalog wide = new Catalog().merge("|Quit||4");
        wide.x.setWidth('E', 2);
        shows(wide, 0, 0, NONE);
        wide.x.setWidth('n', 0);
        shows(wide, 0, 0, 0);
    }

    private static void shows(Catalog c, int message, int count, int due) {
        c.x.show(0, message, count);
        Catalog.same("shown from", due, c.x.shownLocale());
    }

    private static void checking() {
        Catalog.promise(29, "Checks whether the pad can become a form. Nothing changes.");
        Catalog.promise(29, "a locale");
        Catalog.promise(29, "a message");
        Catalog.promise(29, "a category, 0 to 5");
        for (String pad : new String[] {"", "x", "{0} f", "{0}{0}{0}", "}", "{0} 1234567890"}) {
            for (int category = 0; category < 6; category++) {
                int each = category;
                String before = Report.of(() -> Catalog.rich(pad));
                Catalog.text("nothing changes", before, Report.of(() -> {
                    Catalog c = Catalog.rich(pad);
                    c.x.check(1, 2, each);
                    return c;
                }));
            }
        }
    }

    private static void firstThatApplies() {
        Catalog.promise(29, "Returns the first of these that applies: 1 the category is no category of the message "
                + "in the locale; 2 the pad has a fault as a pattern without declarations; "
                + "3 the pad has a placeholder that is no placeholder of the message; "
                + "4 a placeholder that the form needs is missing; "
                + "5 the message has a limit, and the form would be wider; 0 if none applies.");
        Catalog c = new Catalog().merge("|{1}|{1}|12\n|{1}||12");
        String tooLong = "x".repeat(13);
        check(c, "}{2" + tooLong, 0, 0, 0, 1);
        check(c, "{1}", 0, 0, 0, 1);
        check(c, "{1}", 0, 1, 1, 1);
        check(c, "", 0, 0, 5, 2);
        check(c, "}{2}" + tooLong, 0, 0, 5, 2);
        check(c, "{1}\n", 0, 0, 5, 2);
        check(c, "{1}|", 0, 0, 5, 2);
        check(c, "{1:d5}", 0, 0, 5, 2);
        check(c, "{1}" + "x".repeat(58), 0, 0, 5, 2);
        check(c, "{2}" + tooLong, 0, 0, 5, 3);
        check(c, "{1}{2}" + tooLong, 0, 0, 5, 3);
        check(c, "{0}{1}", 0, 0, 5, 3);
        check(c, tooLong, 0, 0, 5, 4);
        check(c, "x", 0, 0, 1, 4);
        check(c, "{1}xxx", 0, 0, 5, 5);
        check(c, "{1}{1}", 0, 0, 1, 5);
        check(c, "{1}" + "x".repeat(57), 0, 1, 5, 5);
        check(c, "{1}xx", 0, 0, 5, 0);
        check(c, "{1}xx", 0, 0, 1, 0);
        check(c, "{1}", 0, 1, 5, 0);
    }

    private static void translating() {
        Catalog.promise(30, "Makes the pad a form of a message, in place of the one that there may be; "
                + "the mark is removed. Undoable.");
        Catalog.promise(30, "a locale");
        Catalog.promise(30, "a message");
        Catalog.promise(30, "a category, 0 to 5");
        Catalog.promise(30, "Returns how many categories of the message in the locale have no form then.");
        Catalog c = new Catalog().merge("|a|b|\n|c||").rules(0, "zero:n=0;one:n=1;two:n=2;few:n=3;many:n=4").pad("x");
        for (int category = 0; category < 6; category++) {
            int each = category;
            c.due("left " + (5 - category), 5 - category, () -> c.x.translate(0, 0, each));
            c.due("again", 5 - category, () -> c.x.translate(0, 0, each));
        }
        c.due("no plural message", 0, () -> c.x.translate(0, 1, 5));
        c.pad("y");
        c.due("in place of it", 0, () -> c.x.translate(0, 0, 0));
        Catalog.text("the new one", "y", c.formText(0, 0, 0));
        Catalog.text("another one stays", "x", c.formText(0, 0, 1));
        c.x.mark(0, 0, true);
        c.x.mark(0, 1, true);
        c.due("the mark", 0, () -> c.x.translate(0, 0, 5));
        c.due("is removed", 3, () -> c.x.state(0, 0));
        c.due("that of another message is not", 2, () -> c.x.state(0, 1));
        c.x.undo();
        c.due("undone", 2, () -> c.x.state(0, 0));
        Catalog.text("undone form", "x", c.formText(0, 0, 5));
        c.x.untranslate(0, 0);
        c.due("one of six, while partial", 5, () -> c.x.translate(0, 0, 3));
        c.x.mark(0, 0, true);
        c.due("two of six", 4, () -> c.x.translate(0, 0, 0));
        c.due("the mark is gone in a partial one", 0, () -> c.x.mark(0, 0, false));
        c.rules(1, "one:n=1").form(1, 0, 1, "z");
        c.x.mark(1, 0, true);
        c.due("another locale", 3, () -> c.x.translate(0, 0, 5));
        c.due("keeps its mark", 1, () -> c.x.mark(1, 0, true));
        String longest = "abcdefghij".repeat(6);
        Catalog.text("60 characters", longest, new Catalog().merge("|a||").form(0, 0, 5, longest).formText(0, 0, 5));
    }

    private static void untranslating() {
        Catalog.promise(31, "Removes all forms of a message in a locale, and the mark. Undoable.");
        Catalog.promise(31, "a locale");
        Catalog.promise(31, "a message");
        Catalog.promise(31, "Returns how many forms were removed.");
        String[] names = {"zero", "one", "two", "few", "many"};
        StringBuilder rules = new StringBuilder();
        for (int count = 0; count < 5; count++) {
            rules.append(count == 0 ? "" : ";").append(names[count]).append(":n=").append(count);
            Catalog c = new Catalog().merge("|a|b|\n|c||").rules(0, rules.toString());
            c.form(0, 1, 5, "other message").form(1, 0, 5, "other locale");
            for (int category = 0; category <= count; category++) {
                c.form(0, 0, category, "x");
            }
            c.due("forms", count + 1, () -> c.x.untranslate(0, 0));
            for (int category = 0; category < 6; category++) {
                Catalog.text("removed", "", c.formText(0, 0, category));
            }
            c.due("none is left", Catalog.STATE, () -> c.x.untranslate(0, 0));
            Catalog.text("another message", "other message", c.formText(0, 1, 5));
            Catalog.text("another locale", "other locale", c.formText(1, 0, 5));
            c.x.undo();
            c.due("undone", count + 1, () -> c.x.untranslate(0, 0));
        }
        // The mark is gone: the checksum is that of a message that never had one.
        for (int locale = 0; locale < 2; locale++) {
            Catalog marked = new Catalog().merge("|a||").form(locale, 0, 5, "x");
            marked.x.mark(locale, 0, true);
            marked.x.untranslate(locale, 0);
            Catalog never = new Catalog().merge("|a||");
            for (int i = 0; i < 3; i++) {
                never.x.setThreshold(30);
            }
            Catalog.same("no mark is left", never.x.checksum(), marked.x.checksum());
        }
    }

    private static void marking() {
        Catalog.promise(32, "Marks a message for review in a locale, or removes the mark. "
                + "Undoable, also if nothing changes.");
        Catalog.promise(32, "a locale");
        Catalog.promise(32, "a message");
        Catalog.promise(32, "whether it is marked then");
        Catalog.promise(32, "Returns 1 if it was marked before, else 0.");
        Catalog c = new Catalog();
        c.due("remove none", 0, () -> c.x.mark(0, 0, false));
        c.due("set", 0, () -> c.x.mark(0, 0, true));
        c.due("set again", 1, () -> c.x.mark(0, 0, true));
        c.due("remove", 1, () -> c.x.mark(0, 0, false));
        c.due("remove again", 0, () -> c.x.mark(0, 0, false));
        int[] states = {3, 2, 2, 3, 3};
        for (int left = 4; left >= 0; left--) {
            int due = left;
            c.due("state", states[left], () -> c.x.state(0, 0));
            c.due("each one is undoable", due, () -> c.x.undo());
        }
        c.due("partial", 0, () -> c.x.mark(1, 1, true));
        c.due("partial, marked", 1, () -> c.x.mark(1, 1, true));
    }

    private static void lookingAtStates() {
        Catalog.promise(33, "Returns the state of a message in a locale.");
        Catalog.promise(33, "a locale");
        Catalog.promise(33, "a message");
        Catalog.promise(33, "Returns the state, 0 to 3.");
        Catalog c = new Catalog();
        c.x.mark(0, 2, true);
        int[][] due = {{3, 3, 2}, {0, 1, 0}};
        for (int l = 0; l < 2; l++) {
            for (int m = 0; m < 3; m++) {
                int locale = l;
                int message = m;
                c.due("state " + l + " " + m, due[l][m], () -> c.x.state(locale, message));
            }
        }
    }

    private static void characters() {
        Catalog.promise(34, "Returns a character of a form.");
        Catalog.promise(34, "a locale");
        Catalog.promise(34, "a message");
        Catalog.promise(34, "a category, 0 to 5");
        Catalog.promise(34, "the index of the character, from 0");
        Catalog.promise(34, "Returns its code; NONE if there is no such form or character.");
        String form = "{{~ }}" + "abcdef".repeat(9);
        Catalog c = new Catalog().merge("|a|b|\n|c||").form(0, 0, 5, form).form(0, 0, 1, "x");
        for (int i = 0; i < 60; i++) {
            int index = i;
            c.due("character " + i, form.charAt(i), () -> c.x.formCharacter(0, 0, 5, index));
        }
        for (int wrong : new int[] {-1, 60, Integer.MIN_VALUE, Integer.MAX_VALUE}) {
            c.due("character " + wrong, NONE, () -> c.x.formCharacter(0, 0, 5, wrong));
        }
        c.due("of a short one", 'x', () -> c.x.formCharacter(0, 0, 1, 0));
        c.due("behind it", NONE, () -> c.x.formCharacter(0, 0, 1, 1));
        for (int category : new int[] {0, 2, 3, 4}) {
            c.due("no such category here", NONE, () -> c.x.formCharacter(0, 0, category, 0));
        }
        c.due("no form in the locale", NONE, () -> c.x.formCharacter(1, 0, 5, 0));
        c.due("no form of the message", NONE, () -> c.x.formCharacter(0, 1, 5, 0));
    }

    private static void formWidths() {
        Catalog.promise(35, "Returns the width of a form.");
        Catalog.promise(35, "a locale");
        Catalog.promise(35, "a message");
        Catalog.promise(35, "a category, 0 to 5");
        Catalog.promise(35, "Returns the width; NONE if there is no such form.");
        Catalog c = new Catalog();
        int[][] due = {{0, 0, 5, 4}, {0, 0, 1, NONE}, {1, 0, 5, NONE}, {0, 1, 1, 12}, {0, 1, 5, 14}, {0, 1, 0, NONE},
            {1, 1, 1, 11}, {1, 1, 3, 12}, {1, 1, 5, NONE}, {0, 2, 5, 15}, {1, 2, 5, NONE}};
        for (int[] each : due) {
            c.due("width of " + each[0] + " " + each[1] + " " + each[2], each[3],
                    () -> c.x.formWidth(each[0], each[1], each[2]));
        }
        for (char sign : "End".toCharArray()) {
            c.x.setWidth(sign, 0);
        }
        c.x.setWidth('e', 0);
        c.due("no width is 0, not NONE", 0, () -> c.x.formWidth(0, 0, 5));
    }

    private static void totals() {
        Catalog.promise(36, "Counts the messages that have a state in a locale.");
        Catalog.promise(36, "a locale");
        Catalog.promise(36, "the state, 0 to 3");
        Catalog.promise(36, "Returns how many there are.");
        Catalog c = new Catalog().merge("|a|b|\n|c||\n|d||\n|e||\n|f||\n|g|h|\n|i||");
        c.form(0, 0, 1, "x").form(0, 5, 5, "x").form(0, 1, 5, "x").form(0, 2, 5, "x").form(0, 3, 5, "x");
        c.x.mark(0, 3, true);
        c.x.mark(0, 0, true);
        int[] due = {2, 2, 1, 2};
        for (int state = 0; state < 4; state++) {
            int each = state;
            c.due("state " + state, due[state], () -> c.x.total(0, each));
            c.due("state " + state + " in locale 1", state == 0 ? 7 : 0, () -> c.x.total(1, each));
        }
        // Obsolete ones do not count.
        c.merge("|c||");
        c.due("ready", 1, () -> c.x.total(0, 3));
        c.due("marked", 0, () -> c.x.total(0, 2));
        c.due("missing", 0, () -> c.x.total(0, 0));
    }
}
