/** The edges of arguments, of showing a message, and of the shown text. */
final class ShowEdgeTest {
    private static final int NONE = -1;
    private static final String FORTY = "abcde fghi".repeat(4);

    public static void main(String[] args) {
        tenArguments();
        firstLocale();
        usableForms();
        categoryOfTheLocale();
        sourceOrPlural();
        countOrArgument();
        types();
        decimals();
        groups();
        noGroups();
        widthOfAValue();
        settingNumbers();
        settingTexts();
        showing();
        pseudo();
        characters();
        fromWhere();
        longest();
        Catalog.end();
    }

    private static void show(Catalog c, int locale, int message, int count, String due, int from) {
        String what = "show " + locale + " " + message + " " + count;
        c.due(what, due.length(), () -> c.x.show(locale, message, count));
        Catalog.text(what, due, c.shown());
        Catalog.same(what + " from", from, c.x.shownLocale());
    }

    private static void tenArguments() {
        Catalog.term("SHOWING", "There are ten arguments, 0 to 9; each is not set, a number (a long) "
                + "or a text of at most 40 characters.");
        StringBuilder lines = new StringBuilder();
        for (int i = 0; i < 20; i++) {
            lines.append(i == 0 ? "" : "\n").append("|{").append(i % 10).append(i < 10 ? ":d40}||" : ":s40}||");
        }
        Catalog c = new Catalog().merge(lines.toString());
        for (int i = 0; i < 10; i++) {
            int index = i;
            c.due("no number " + i, Catalog.STATE, () -> c.x.show(0, index, 0));
            if (i != 1) {
                c.due("no text " + i, Catalog.STATE, () -> c.x.show(0, 10 + index, 0));
            }
        }
        show(c, 0, 11, 0, "log", NONE);
        for (int i = 0; i < 10; i++) {
            c.x.setNumber(i, 1000000000000L * i - 5);
        }
        for (int i = 0; i < 10; i++) {
            show(c, 0, i, 0, "" + (1000000000000L * i - 5), NONE);
            int index = i;
            c.due("a number is no text", Catalog.STATE, () -> c.x.show(0, 10 + index, 0));
        }
        for (int i = 0; i < 10; i++) {
            c.pad(FORTY.substring(1) + i).x.setText(i);
        }
        for (int i = 0; i < 10; i++) {
            show(c, 0, 10 + i, 0, FORTY.substring(1) + i, NONE);
            int index = i;
            c.due("a text is no number", Catalog.STATE, () -> c.x.show(0, index, 0));
        }
        c.pad(FORTY + "x");
        c.due("41 characters", Catalog.ARGUMENT, () -> c.x.setText(5));
        c.pad(FORTY).x.setText(5);
        show(c, 0, 15, 0, FORTY, NONE);
        c.pad("").x.setText(5);
        show(c, 0, 15, 0, "", NONE);
    }

    /** Locale 3 with the parents 2, 1 and 0. */
    private static Catalog chain() {
        Catalog c = new Catalog().merge("|a||");
        c.x.addLocale(1);
        c.x.addLocale(2);
        return c;
    }

    private static void firstLocale() {
        Catalog.term("SHOWING", "To show a message in a locale for a count means: beginning with the locale "
                + "and following the parents, the first locale is taken in which the message is ready");
        Catalog c = chain();
        show(c, 3, 0, 0, "a", NONE);
        c.form(0, 0, 5, "zero");
        for (int locale = 0; locale < 4; locale++) {
            show(c, locale, 0, 0, "zero", 0);
        }
        c.form(2, 0, 5, "two");
        show(c, 3, 0, 0, "two", 2);
        show(c, 2, 0, 0, "two", 2);
        show(c, 1, 0, 0, "zero", 0);
        c.form(3, 0, 5, "three");
        show(c, 3, 0, 0, "three", 3);
        c.x.mark(3, 0, true);
        show(c, 3, 0, 0, "two", 2);
        c.x.mark(2, 0, true);
        show(c, 3, 0, 0, "zero", 0);
        c.x.mark(0, 0, true);
        show(c, 3, 0, 0, "a", NONE);
        c.x.mark(3, 0, false);
        show(c, 3, 0, 0, "three", 3);
        show(c, 2, 0, 0, "a", NONE);
        // Following the parents, not the numbers; and no farther than they go.
        Catalog d = chain().form(0, 0, 5, "zero").form(2, 0, 5, "two");
        d.x.setParent(3, 0);
        show(d, 3, 0, 0, "zero", 0);
        d.x.setParent(3, NONE);
        show(d, 3, 0, 0, "a", NONE);
        d.x.setParent(0, 3);
        d.x.untranslate(0, 0);
        d.x.untranslate(2, 0);
        d.form(3, 0, 5, "three");
        show(d, 2, 0, 0, "three", 3);
        // Partial is not ready.
        Catalog e = new Catalog().form(1, 1, 5, "{0} fajlova");
        show(e, 1, 1, 2, "2 fajla", 1);
        e.rules(1, "one:n=1;few:n=2;many:n=7");
        show(e, 1, 1, 2, "2 Dateien", 0);
    }

    private static void usableForms() {
        Catalog.term("SHOWING", "and its form for the category is usable;");
        Catalog c = new Catalog().form(1, 1, 5, "{0} f").form(1, 1, 3, "{0} jjjj1");
        show(c, 1, 1, 2, "2 jjjj1", 1);
        c.x.setWidth('j', 2);
        show(c, 1, 1, 2, "2 jjjj1", 1);
        c.x.setWidth('1', 2);
        show(c, 1, 1, 2, "2 Dateien", 0);
        // Another form of the locale may be too wide.
        show(c, 1, 1, 5, "5 f", 1);
        // One that does not fit any more.
        Catalog d = new Catalog().rules(1, "one:n=1").form(1, 1, 1, "jedan").form(1, 1, 5, "{0} f");
        show(d, 1, 1, 1, "jedan", 1);
        d.rules(1, "one:n=1,2");
        show(d, 1, 1, 1, "1 Datei", 0);
        show(d, 1, 1, 3, "3 f", 1);
        // A ready locale whose form is not usable does not end the search.
        Catalog e = chain().merge("|a||3").form(0, 0, 5, "ok").form(1, 0, 5, "too").form(3, 0, 5, "xxx");
        e.x.setWidth('x', 2);
        e.x.setWidth('t', 2);
        show(e, 3, 0, 0, "ok", 0);
        e.x.setWidth('k', 2);
        show(e, 3, 0, 0, "ok", 0);
        e.x.setWidth('o', 2);
        show(e, 3, 0, 0, "a", NONE);
    }

    private static void categoryOfTheLocale() {
        Catalog.term("SHOWING", "the category is that of the count in this locale for a plural message, "
                + "otherwise other. The text is that form.");
        Catalog c = new Catalog().form(1, 1, 5, "{0} fajlova");
        show(c, 1, 1, 21, "21 fajl", 1);
        show(c, 1, 1, 11, "11 fajlova", 1);
        show(c, 1, 1, 14, "14 fajlova", 1);
        show(c, 1, 1, 22, "22 fajla", 1);
        show(c, 1, 1, 0, "0 fajlova", 1);
        show(c, 0, 1, 21, "21 Dateien", 0);
        show(c, 0, 1, 1, "1 Datei", 0);
        // The category in the locale that is taken, not in the one that was asked.
        c.x.mark(1, 1, true);
        show(c, 1, 1, 21, "21 Dateien", 0);
        show(c, 0, 0, 1, "Ende", 0);
        show(c, 0, 0, 2, "Ende", 0);
    }

    private static void sourceOrPlural() {
        Catalog.term("SHOWING", "If there is no such locale, the text is the source pattern, or, for a plural message "
                + "and a count other than 1, the plural pattern.");
        Catalog c = new Catalog().merge("|one|many|\n|just one||");
        int[] counts = {0, 1, 2, 10, 11, 21, 101, Integer.MAX_VALUE};
        for (int count : counts) {
            show(c, 0, 0, count, count == 1 ? "one" : "many", NONE);
            show(c, 1, 0, count, count == 1 ? "one" : "many", NONE);
            show(c, 1, 1, count, "just one", NONE);
        }
    }

    private static void countOrArgument() {
        Catalog.term("SHOWING", "Placeholders are replaced by values: placeholder 0 of a plural message by the count, "
                + "every other one by the argument with its index.");
        Catalog c = new Catalog().merge("|{0} {2}|{0} {2} {0}|\n|{0} {2}||");
        c.due("argument 2 is not set", Catalog.STATE, () -> c.x.show(0, 0, 1));
        c.x.setNumber(2, 22);
        show(c, 0, 0, 1, "1 22", NONE);
        show(c, 0, 0, 7, "7 22 7", NONE);
        c.due("argument 0 is not set", Catalog.STATE, () -> c.x.show(0, 1, 1));
        c.x.setNumber(0, 33);
        show(c, 0, 0, 1, "1 22", NONE);
        show(c, 0, 1, 1, "33 22", NONE);
        c.pad("text").x.setText(0);
        show(c, 0, 0, 1, "1 22", NONE);
        c.due("a text for a number", Catalog.STATE, () -> c.x.show(0, 1, 1));
        // Also in a form, as often as it occurs there.
        c.form(0, 0, 1, "{2}").form(0, 0, 5, "{2}{0}{2}");
        show(c, 0, 0, 1, "22", 0);
        show(c, 0, 0, 5, "22522", 0);
    }

    private static void types() {
        Catalog.term("SHOWING", "A placeholder of type d needs a number, one of type s a text.");
        Catalog c = new Catalog().merge("|{2}||\n|{2:s9}||\n|a{3}|a{3} {2:s9}|");
        c.x.setNumber(2, 5);
        show(c, 0, 0, 0, "5", NONE);
        c.due("a number for s", Catalog.STATE, () -> c.x.show(0, 1, 0));
        c.pad("5").x.setText(2);
        c.due("a text for d", Catalog.STATE, () -> c.x.show(0, 0, 0));
        show(c, 0, 1, 0, "5", NONE);
        // Just the placeholders of the text that is shown.
        c.x.setNumber(3, 8);
        c.x.setNumber(2, 5);
        show(c, 0, 2, 1, "a8", NONE);
        c.due("the plural pattern has it, too", Catalog.STATE, () -> c.x.show(0, 2, 2));
    }

    private static void number(Catalog c, long value, String due) {
        c.x.setNumber(0, value);
        show(c, 0, 0, 0, due, c.x.state(0, 0) == 3 ? 0 : NONE);
    }

    private static void decimals() {
        Catalog.term("SHOWING", "Numbers are written in decimal, with \"-\" if they are negative;");
        Catalog c = new Catalog().merge("|{0:d40}||");
        long[] values = {0, 1, -1, 9, 10, -10, 99, 100, 123456789, Integer.MAX_VALUE, Integer.MIN_VALUE,
            1L + Integer.MAX_VALUE, -1L + Integer.MIN_VALUE, 999999999999999999L, 1000000000000000000L,
            -1000000000000000000L, Long.MAX_VALUE, Long.MIN_VALUE, Long.MAX_VALUE - 1, Long.MIN_VALUE + 1};
        for (long value : values) {
            number(c, value, "" + value);
        }
        number(c, Long.MAX_VALUE, "9223372036854775807");
        number(c, Long.MIN_VALUE, "-9223372036854775808");
    }

    private static void groups() {
        Catalog.term("SHOWING", "if a form of a locale with a separator is shown, the separator stands "
                + "between groups of digits of the group size, counted from the right.");
        Catalog c = new Catalog().merge("|{0:d40}||").form(0, 0, 5, "{0}");
        number(c, 0, "0");
        number(c, 999, "999");
        number(c, 1000, "1.000");
        number(c, 999999, "999.999");
        number(c, 1000000, "1.000.000");
        number(c, -999, "-999");
        number(c, -1000, "-1.000");
        number(c, -100000, "-100.000");
        number(c, Long.MAX_VALUE, "9.223.372.036.854.775.807");
        number(c, Long.MIN_VALUE, "-9.223.372.036.854.775.808");
        c.x.setGrouping(0, '/', 1);
        number(c, 9, "9");
        number(c, 10, "1/0");
        number(c, -10, "-1/0");
        number(c, Long.MIN_VALUE, "-9/2/2/3/3/7/2/0/3/6/8/5/4/7/7/5/8/0/8");
        c.x.setGrouping(0, ' ', 2);
        number(c, 99, "99");
        number(c, 100, "1 00");
        number(c, Long.MAX_VALUE, "9 22 33 72 03 68 54 77 58 07");
        c.x.setGrouping(0, '~', 4);
        number(c, 9999, "9999");
        number(c, 10000, "1~0000");
        number(c, Long.MIN_VALUE, "-922~3372~0368~5477~5808");
        // The count, too; and the separator of the locale whose form it is.
        Catalog d = new Catalog().form(1, 1, 5, "{0} f");
        show(d, 1, 1, 12345, "12 345 f", 1);
        d.x.mark(1, 1, true);
        show(d, 1, 1, 12345, "12.345 Dateien", 0);
    }

    private static void noGroups() {
        Catalog c = new Catalog().merge("|{0:d40}||").form(0, 0, 5, "{0}");
        c.x.setGrouping(0, 0, 1);
        number(c, 1234567, "1234567");
        // A source has none, nor has a text.
        c.x.setGrouping(0, '.', 1);
        c.x.mark(0, 0, true);
        number(c, 1234567, "1234567");
        c.x.undo();
        number(c, 1234567, "1.2.3.4.5.6.7");
        Catalog d = new Catalog();
        d.pad("123456").x.setText(1);
        show(d, 0, 2, 0, "123456 laden", 0);
        Catalog e = new Catalog().merge("|x 123456||").form(0, 0, 5, "123456 {{0}}");
        show(e, 0, 0, 0, "123456 {0}", 0);
    }

    private static void widthOfAValue() {
        Catalog.term("SHOWING", "The width of a value is the sum of the widths of its characters; "
                + "it must not be greater than the width of the placeholder.");
        Catalog c = new Catalog().merge("|{2:d3}||\n|{2:s3}||\n|{2}||\n|{2:d40}||");
        long[] right = {0, 99, 999, -99};
        for (long value : right) {
            c.x.setNumber(2, value);
            show(c, 0, 0, 0, "" + value, NONE);
        }
        for (long value : new long[] {1000, -100, Long.MAX_VALUE, Long.MIN_VALUE}) {
            c.x.setNumber(2, value);
            c.due("too wide " + value, Catalog.STATE, () -> c.x.show(0, 0, 0));
        }
        // Not declared, the width is 10.
        c.x.setNumber(2, 9999999999L);
        show(c, 0, 2, 0, "9999999999", NONE);
        c.x.setNumber(2, 10000000000L);
        c.due("eleven", Catalog.STATE, () -> c.x.show(0, 2, 0));
        show(c, 0, 3, 0, "10000000000", NONE);
        c.pad("abc").x.setText(2);
        show(c, 0, 1, 0, "abc", NONE);
        c.pad("abcd").x.setText(2);
        c.due("four", Catalog.STATE, () -> c.x.show(0, 1, 0));
        c.x.setWidth('d', 0);
        show(c, 0, 1, 0, "abcd", NONE);
        c.x.setWidth('a', 2);
        c.due("a is wide", Catalog.STATE, () -> c.x.show(0, 1, 0));
        c.x.setWidth('b', 0);
        show(c, 0, 1, 0, "abcd", NONE);
        // The sign and the separators count, and one value is not counted with the next.
        Catalog d = new Catalog().merge("|{2:d4}{2}||").form(0, 0, 5, "{2}{2}");
        d.x.setNumber(2, 999);
        show(d, 0, 0, 0, "999999", 0);
        d.x.setNumber(2, -999);
        show(d, 0, 0, 0, "-999-999", 0);
        d.x.setNumber(2, 1000);
        d.due("with a separator", Catalog.STATE, () -> d.x.show(0, 0, 0));
        d.x.setWidth('.', 0);
        show(d, 0, 0, 0, "1.0001.000", 0);
        d.x.setNumber(2, -1000);
        d.due("with a sign", Catalog.STATE, () -> d.x.show(0, 0, 0));
        d.x.setWidth('-', 0);
        show(d, 0, 0, 0, "-1.000-1.000", 0);
        d.x.setWidth('0', 2);
        d.due("with wide digits", Catalog.STATE, () -> d.x.show(0, 0, 0));
        // The second value is too wide.
        Catalog e = new Catalog().merge("|{2:d4}{3:d1}||");
        e.x.setNumber(2, 1234);
        e.x.setNumber(3, 10);
        e.due("the second", Catalog.STATE, () -> e.x.show(0, 0, 0));
        e.x.setNumber(3, 9);
        show(e, 0, 0, 0, "12349", NONE);
        // The shown text as a whole may be wider than the limit.
        Catalog f = new Catalog().merge("|abcdef||3");
        show(f, 0, 0, 0, "abcdef", NONE);
    }

    private static void settingNumbers() {
        Catalog.promise(39, "Sets an argument to a number.");
        Catalog.promise(39, "the argument");
        Catalog.promise(39, "the number");
        Catalog.promise(39, "Returns 0 if it was not set before, 1 if it was a number, 2 if it was a text.");
        Catalog c = new Catalog();
        for (int i = 0; i < 10; i++) {
            int index = i;
            c.due("before " + i, i == 1 ? 2 : 0, () -> c.x.setNumber(index, 0));
            c.due("a number " + i, 1, () -> c.x.setNumber(index, Long.MIN_VALUE));
            c.pad("x").x.setText(i);
            c.due("a text " + i, 2, () -> c.x.setNumber(index, Long.MAX_VALUE));
        }
    }

    private static void settingTexts() {
        Catalog.promise(40, "Sets an argument to the text in the pad (also an empty one).");
        Catalog.promise(40, "the argument");
        Catalog.promise(40, "Returns 0 if it was not set before, 1 if it was a number, 2 if it was a text.");
        Catalog c = new Catalog();
        for (int i = 0; i < 10; i++) {
            int index = i;
            c.due("before " + i, i == 1 ? 2 : 0, () -> c.x.setText(index));
            c.due("a text " + i, 2, () -> c.x.setText(index));
            c.x.setNumber(index, 0);
            c.due("a number " + i, 1, () -> c.x.setText(index));
        }
        c.merge("|{2:s40}||");
        for (String text : new String[] {"", "a", FORTY, "x", "{0} }|{", " ", "~ ~"}) {
            c.pad(text).x.setText(2);
            c.pad("something else");
            show(c, 0, 0, 0, text, NONE);
        }
        // A line feed at each place, and behind what is read of a shorter pad.
        for (int at = 0; at < 4; at++) {
            c.pad("abcd".substring(0, at) + "\n" + "abcd".substring(at));
            c.due("a line feed at " + at, Catalog.ARGUMENT, () -> c.x.setText(2));
        }
        c.pad("abc");
        c.due("none any more", 2, () -> c.x.setText(2));
    }

    private static void showing() {
        Catalog.promise(41, "Shows a message. The shown text is kept until another call of show() or pseudo() "
                + "ends normally.");
        Catalog.promise(41, "a locale");
        Catalog.promise(41, "a message");
        Catalog.promise(41, "the count; without effect if it is no plural message");
        Catalog.promise(41, "Returns the length of the shown text.");
        Catalog c = new Catalog();
        show(c, 0, 0, 0, "Ende", 0);
        show(c, 0, 0, 1, "Ende", 0);
        show(c, 0, 0, Integer.MAX_VALUE, "Ende", 0);
        c.form(0, 0, 5, "Aus");
        c.x.setWidth('E', 2);
        c.merge("|zzz||");
        c.x.undo();
        c.due("refused", Catalog.BOUNDS, () -> c.x.show(0, 3, 0));
        c.due("refused, too", Catalog.ARGUMENT, () -> c.x.show(0, 0, -1));
        c.due("too wide", Catalog.STATE, () -> c.x.show(0, 1, 1000000));
        c.due("pseudo, too wide", Catalog.STATE, () -> c.x.pseudo(1, 1000000));
        Catalog.text("kept", "Ende", c.shown());
        Catalog.same("kept, from", 0, c.x.shownLocale());
        show(c, 0, 0, 0, "Aus", 0);
        c.x.pseudo(0, 0);
        Catalog.text("pseudo", "[Quuiit]", c.shown());
    }

    private static void pseudo() {
        Catalog.promise(42, "Shows the source text of a message (the plural pattern of a plural message "
                + "if count is not 1) as a pseudo-translation:");
        Catalog.promise(42, "each literal character that is one of a, e, i, o, u, A, E, I, O, U stands twice, "
                + "\"[\" stands before the text and \"]\" behind it.");
        Catalog.promise(42, "a message");
        Catalog.promise(42, "the count; without effect if it is no plural message");
        Catalog.promise(42, "Returns the length of the shown text.");
        StringBuilder source = new StringBuilder();
        StringBuilder due = new StringBuilder();
        for (int code = 32; code <= 126; code++) {
            if (code == 80) {
                pseudo(source.toString(), due.toString());
                source.setLength(0);
                due.setLength(0);
            }
            if (code != '|') {
                String sign = "" + (char) code;
                source.append(code == '{' || code == '}' ? sign + sign : sign);
                due.append("aeiouAEIOU".contains(sign) ? sign + sign : sign);
            }
        }
        pseudo(source.toString(), due.toString());
        pseudo("a".repeat(60), "a".repeat(120));
        pseudo("x", "x");
        Catalog c = new Catalog().merge("|one {0}|more {0}|\n|just one||");
        for (int count : new int[] {0, 1, 2, 21}) {
            String text = count == 1 ? "[oonee 1]" : "[mooree " + count + "]";
            c.due("pseudo " + count, text.length(), () -> c.x.pseudo(0, count));
            Catalog.text("pseudo " + count, text, c.shown());
            c.due("pseudo of another one " + count, 13, () -> c.x.pseudo(1, count));
            Catalog.text("pseudo of another one " + count, "[juust oonee]", c.shown());
        }
        Catalog.promise(42, "Placeholders are replaced as by show(), without separators.");
        Catalog d = new Catalog().merge("|{0:d40}{1:s9}{2:d20}||").form(0, 0, 5, "{0}{1}{2}");
        d.x.setNumber(0, Long.MIN_VALUE);
        d.x.setNumber(2, 1234567);
        d.pad("aeiou").x.setText(1);
        d.due("pseudo of values", 34, () -> d.x.pseudo(0, 0));
        Catalog.text("pseudo of values", "[-9223372036854775808aeiou1234567]", d.shown());
        d.pad("aeiouaeiou").x.setText(1);
        d.due("too wide", Catalog.STATE, () -> d.x.pseudo(0, 0));
        d.x.setNumber(1, 1);
        d.due("the other type", Catalog.STATE, () -> d.x.pseudo(0, 0));
        Catalog.text("kept", "[-9223372036854775808aeiou1234567]", d.shown());
    }

    private static void pseudo(String source, String due) {
        Catalog c = new Catalog().merge("|" + source + "||");
        c.due("pseudo of " + source, due.length() + 2, () -> c.x.pseudo(0, 0));
        Catalog.text("pseudo of " + source, "[" + due + "]", c.shown());
        Catalog.same("from", NONE, c.x.shownLocale());
    }

    private static void characters() {
        Catalog.promise(43, "Returns a character of the shown text.");
        Catalog.promise(43, "its index, from 0");
        Catalog.promise(43, "Returns its code; NONE if there is no such character (or nothing has been shown).");
        Catalog c = new Catalog();
        for (int i : new int[] {-1, 0, 1, Integer.MIN_VALUE, Integer.MAX_VALUE}) {
            c.due("nothing at " + i, NONE, () -> c.x.shownCharacter(i));
        }
        c.due("still nothing", Catalog.BOUNDS, () -> c.x.show(2, 0, 0));
        c.due("still none", NONE, () -> c.x.shownCharacter(0));
        c.x.show(0, 0, 0);
        int[] due = {NONE, 'E', 'n', 'd', 'e', NONE, NONE};
        for (int i = -1; i < 6; i++) {
            int index = i;
            c.due("character " + i, due[i + 1], () -> c.x.shownCharacter(index));
        }
        // A shorter one behind a longer one, and an empty one.
        c.merge("|longer than that||\n|ab||\n|{2:s9}||");
        c.x.show(0, 0, 0);
        c.x.show(0, 1, 0);
        c.due("its last one", 'b', () -> c.x.shownCharacter(1));
        c.due("behind the shorter one", NONE, () -> c.x.shownCharacter(2));
        c.pad("").x.setText(2);
        c.due("an empty one", 0, () -> c.x.show(0, 2, 0));
        c.due("has no character", NONE, () -> c.x.shownCharacter(0));
    }

    private static void fromWhere() {
        Catalog.promise(44, "Returns where the shown text came from.");
        Catalog.promise(44, "Returns the locale whose form was shown; NONE if it was a source text "
                + "(also by pseudo()), or nothing has been shown.");
        Catalog c = new Catalog();
        c.due("nothing shown", NONE, () -> c.x.shownLocale());
        c.x.show(0, 0, 0);
        c.due("locale 0", 0, () -> c.x.shownLocale());
        c.x.pseudo(0, 0);
        c.due("pseudo", NONE, () -> c.x.shownLocale());
        c.x.addLocale(NONE);
        c.x.addLocale(NONE);
        c.form(3, 0, 5, "x");
        c.x.show(3, 0, 0);
        c.due("locale 3", 3, () -> c.x.shownLocale());
        c.x.show(2, 0, 0);
        c.due("a source text", NONE, () -> c.x.shownLocale());
        c.x.show(1, 0, 0);
        c.due("the parent", 0, () -> c.x.shownLocale());
    }

    /** Twenty placeholders of 40 characters, whatever the characters' widths are. */
    private static void longest() {
        Catalog c = new Catalog().merge("|" + "{2:s9}" + "{2}".repeat(18) + "||").form(0, 0, 5, "{2}".repeat(20));
        for (char sign : "abcdefghi ".toCharArray()) {
            c.x.setWidth(sign, 0);
        }
        c.pad(FORTY).x.setText(2);
        show(c, 0, 0, 0, FORTY.repeat(20), 0);
        c.due("pseudo", 19 * 40 + 2, () -> c.x.pseudo(0, 0));
        Catalog.text("pseudo", "[" + FORTY.repeat(19) + "]", c.shown());
        c.due("the last one", ']', () -> c.x.shownCharacter(761));
        c.due("behind it", NONE, () -> c.x.shownCharacter(762));
        Catalog d = new Catalog().merge("|{0:d38}||").form(0, 0, 5, "{0}".repeat(20));
        d.x.setGrouping(0, '.', 1);
        d.x.setNumber(0, Long.MIN_VALUE);
        show(d, 0, 0, 0, "-9.2.2.3.3.7.2.0.3.6.8.5.4.7.7.5.8.0.8".repeat(20), 0);
        d.merge("|{0:d37}||").form(0, 0, 5, "{0}");
        d.due("38 is more than 37", Catalog.STATE, () -> d.x.show(0, 0, 0));
    }
}
