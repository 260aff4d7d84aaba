/** Promises 39 to 44: arguments, show, pseudo, the shown text. */
final class ShowTest {
    private static final int NONE = -1;

    public static void main(String[] args) {
        arguments();
        fallback();
        usable();
        values();
        numbers();
        widths();
        pseudo();
        longest();
        Catalog.end();
    }

    private static void arguments() {
        Catalog c = new Catalog();
        c.due("not set", 0, () -> c.x.setNumber(0, 5));
        c.due("a number", 1, () -> c.x.setNumber(0, 6));
        c.due("a number before a text", 1, () -> c.x.setText(0));
        c.due("a text", 2, () -> c.x.setText(0));
        c.due("a text before a number", 2, () -> c.x.setNumber(0, -7));
        c.due("the first text", 2, () -> c.x.setText(1));
        c.due("the last argument", 0, () -> c.x.setText(9));
        for (int index : new int[] {-1, 10, Integer.MIN_VALUE, Integer.MAX_VALUE}) {
            c.due("setNumber " + index, Catalog.BOUNDS, () -> c.x.setNumber(index, 0));
            c.due("setText " + index, Catalog.BOUNDS, () -> c.x.setText(index));
        }
        c.pad("a".repeat(40));
        c.due("40 characters", 0, () -> c.x.setText(2));
        c.pad("a".repeat(41));
        c.due("41 characters", Catalog.ARGUMENT, () -> c.x.setText(2));
        c.due("no such argument comes first", Catalog.BOUNDS, () -> c.x.setText(10));
        c.pad("a\nb");
        c.due("a line feed", Catalog.ARGUMENT, () -> c.x.setText(2));
        c.pad("a");
        c.due("a line feed that is gone", 0, () -> c.x.setText(4));
        c.due("nothing saved", Catalog.STATE, () -> c.x.undo());
        c.pad("{0}|}{");
        c.x.setText(2);
        c.merge("|a{2:s40}||");
        c.x.show(0, 0, 0);
        Catalog.text("as it is", "a{0}|}{", c.shown());
        c.pad("");
        c.x.setText(2);
        c.due("an empty text", 1, () -> c.x.show(0, 0, 0));
        Catalog.text("just the rest", "a", c.shown());
    }

    private static void show(Catalog c, int locale, int message, int count, String due, int from) {
        String what = "show " + locale + " " + message + " " + count;
        c.due(what, due.length(), () -> c.x.show(locale, message, count));
        Catalog.text(what, due, c.shown());
        Catalog.same(what + " from", from, c.x.shownLocale());
    }

    private static void fallback() {
        Catalog c = new Catalog();
        c.due("nothing shown", NONE, () -> c.x.shownLocale());
        c.due("no character", NONE, () -> c.x.shownCharacter(0));
        show(c, 0, 0, 0, "Ende", 0);
        show(c, 1, 0, 0, "Ende", 0);
        show(c, 1, 1, 1, "1 Datei", 0);
        show(c, 1, 1, 21, "21 Dateien", 0);
        c.form(1, 1, 5, "{0} fajlova");
        show(c, 1, 1, 21, "21 fajl", 1);
        show(c, 1, 1, 22, "22 fajla", 1);
        show(c, 1, 1, 11, "11 fajlova", 1);
        show(c, 1, 1, 0, "0 fajlova", 1);
        c.x.mark(1, 1, true);
        show(c, 1, 1, 1, "1 Datei", 0);
        c.x.mark(0, 1, true);
        show(c, 1, 1, 1, "1 file", NONE);
        show(c, 1, 1, 2, "2 files", NONE);
        show(c, 1, 1, 0, "0 files", NONE);
        c.x.setParent(1, NONE);
        show(c, 1, 0, 7, "Quit", NONE);
        show(c, 0, 0, 7, "Ende", 0);
        // A chain of parents.
        c.x.addLocale(1);
        c.x.addLocale(2);
        c.x.setParent(1, 0);
        show(c, 3, 0, 0, "Ende", 0);
        for (int locale : new int[] {-1, 4}) {
            c.due("no such locale " + locale, Catalog.BOUNDS, () -> c.x.show(locale, 0, -1));
        }
        for (int message : new int[] {-1, 3}) {
            c.due("no such message " + message, Catalog.BOUNDS, () -> c.x.show(0, message, -1));
            c.due("pseudo, no such message " + message, Catalog.BOUNDS, () -> c.x.pseudo(message, -1));
        }
        c.due("a negative count", Catalog.ARGUMENT, () -> c.x.show(0, 0, -1));
        c.due("pseudo, a negative count", Catalog.ARGUMENT, () -> c.x.pseudo(0, -1));
        c.due("before", NONE, () -> c.x.shownCharacter(-1));
        c.due("behind", NONE, () -> c.x.shownCharacter(4));
        c.due("first", 'E', () -> c.x.shownCharacter(0));
    }

    private static void usable() {
        // The form for the category is too wide: the parent's is shown; another category's is not asked.
        Catalog c = new Catalog().form(1, 1, 5, "{0} f");
        c.x.setWidth('j', 2);
        show(c, 1, 1, 2, "2 fajla", 1);
        c.form(1, 1, 3, "{0} jjjj1");
        show(c, 1, 1, 2, "2 jjjj1", 1);
        c.x.setWidth('1', 2);
        show(c, 1, 1, 2, "2 Dateien", 0);
        show(c, 1, 1, 5, "5 f", 1);
        // The form does not fit any more, since its category covers two numbers.
        Catalog d = new Catalog().form(0, 1, 1, "eine Datei");
        show(d, 0, 1, 1, "eine Datei", 0);
        d.rules(0, "one: n = 1..2");
        show(d, 0, 1, 1, "1 file", NONE);
        show(d, 0, 1, 2, "2 files", NONE);
        show(d, 0, 1, 3, "3 Dateien", 0);
        // Partial is not ready.
        d.rules(0, "one: n = 1; two: n = 2");
        show(d, 0, 1, 1, "1 file", NONE);
        // The limit of a later merge.
        Catalog e = new Catalog().merge("|Quit||3");
        show(e, 0, 0, 0, "Quit", NONE);
    }

    private static void values() {
        Catalog c = new Catalog();
        show(c, 0, 2, 0, "log laden", 0);
        show(c, 1, 2, 0, "log laden", 0);
        c.x.setNumber(1, 5);
        c.due("a number for a text", Catalog.STATE, () -> c.x.show(0, 2, 0));
        c.due("pseudo, a number for a text", Catalog.STATE, () -> c.x.pseudo(2, 0));
        c.pad("123456789");
        c.x.setText(1);
        show(c, 0, 2, 0, "123456789 laden", 0);
        c.pad("1234567890");
        c.x.setText(1);
        c.due("too wide a text", Catalog.STATE, () -> c.x.show(0, 2, 0));
        Catalog.text("the shown text stays", "123456789 laden", c.shown());
        c.due("pseudo, too wide a text", Catalog.STATE, () -> c.x.pseudo(2, 0));
        // Placeholder 0 of a plural message is the count; of another message it is an argument.
        c.merge("|{0} {1}|{0} {1}s{0}|\n|{0} {2:s3}||");
        c.due("argument 1 is a text", Catalog.STATE, () -> c.x.show(0, 0, 1));
        c.x.setNumber(1, 77);
        show(c, 0, 0, 1, "1 77", NONE);
        show(c, 0, 0, 2, "2 77s2", NONE);
        c.due("argument 0 is not set", Catalog.STATE, () -> c.x.show(0, 1, 1));
        c.x.setNumber(0, -4);
        c.due("argument 2 is not set", Catalog.STATE, () -> c.x.show(0, 1, 1));
        c.pad("xyz");
        c.x.setText(2);
        show(c, 0, 1, 1, "-4 xyz", NONE);
        // Just the placeholders of the text count.
        Catalog d = new Catalog().merge("|a|a {3} {0:d2}|");
        show(d, 0, 0, 1, "a", NONE);
        d.due("the plural one needs it", Catalog.STATE, () -> d.x.show(0, 0, 2));
        d.x.setNumber(3, 1);
        show(d, 0, 0, 99, "a 1 99", NONE);
        d.due("too wide a count", Catalog.STATE, () -> d.x.show(0, 0, 100));
        // A brace that is meant.
        Catalog e = new Catalog().merge("|{{{1:s9}}} {{1}}||");
        show(e, 0, 0, 0, "{log} {1}", NONE);
    }

    private static void number(Catalog c, long value, String due) {
        c.x.setNumber(0, value);
        c.x.show(0, 0, 0);
        Catalog.text("number " + value, due, c.shown());
    }

    private static void numbers() {
        Catalog c = new Catalog().merge("|{0:d40}||").form(0, 0, 5, "{0}");
        number(c, 0, "0");
        number(c, -0, "0");
        number(c, 999, "999");
        number(c, 1000, "1.000");
        number(c, -1000, "-1.000");
        number(c, -999, "-999");
        number(c, 1234567, "1.234.567");
        number(c, Long.MAX_VALUE, "9.223.372.036.854.775.807");
        number(c, Long.MIN_VALUE, "-9.223.372.036.854.775.808");
        c.x.setGrouping(0, '_', 1);
        number(c, Long.MIN_VALUE, "-9_2_2_3_3_7_2_0_3_6_8_5_4_7_7_5_8_0_8");
        number(c, 10, "1_0");
        number(c, 7, "7");
        c.x.setGrouping(0, ' ', 4);
        number(c, 12345678, "1234 5678");
        number(c, 1234, "1234");
        c.x.setGrouping(0, 'x', 2);
        number(c, 12345, "1x23x45");
        c.x.setGrouping(0, 0, 2);
        number(c, 12345, "12345");
        // The source has no separators, nor has a form that another locale than the parent gives.
        c.x.setGrouping(0, '.', 3);
        c.x.untranslate(0, 0);
        number(c, 12345, "12345");
        Catalog d = new Catalog();
        show(d, 1, 1, 12345, "12.345 Dateien", 0);
        d.form(1, 1, 5, "{0} f");
        show(d, 1, 1, 12345, "12 345 f", 1);
        show(d, 0, 1, 99999, "99.999 Dateien", 0);
        d.due("too wide with separators", Catalog.STATE, () -> d.x.show(0, 1, 100000));
        d.x.mark(0, 1, true);
        show(d, 0, 1, 100000, "100000 files", NONE);
        d.due("too wide without", Catalog.STATE, () -> d.x.show(0, 1, 1000000));
        d.due("the largest count", Catalog.STATE, () -> d.x.show(0, 1, Integer.MAX_VALUE));
        // A text is not grouped.
        d.pad("123456");
        d.x.setText(1);
        show(d, 0, 2, 0, "123456 laden", 0);
    }

    private static void widths() {
        Catalog c = new Catalog();
        c.x.setWidth('.', 2);
        c.due("a wide separator", Catalog.STATE, () -> c.x.show(0, 1, 99999));
        show(c, 0, 1, 9999, "9.999 Dateien", 0);
        c.x.setWidth('.', 0);
        show(c, 0, 1, 100000, "100.000 Dateien", 0);
        c.x.setWidth('0', 0);
        show(c, 0, 1, 1000000000, "1.000.000.000 Dateien", 0);
        c.x.setWidth('l', 2);
        c.pad("llll1");
        c.x.setText(1);
        show(c, 0, 2, 0, "llll1 laden", 0);
        c.pad("lllll");
        c.x.setText(1);
        c.due("a wide text", Catalog.STATE, () -> c.x.show(0, 2, 0));
        Catalog d = new Catalog().merge("|{0:d2}||");
        d.x.setNumber(0, -12);
        d.due("the sign counts", Catalog.STATE, () -> d.x.show(0, 0, 0));
        d.x.setWidth('-', 0);
        show(d, 0, 0, 0, "-12", NONE);
    }

    private static void pseudo(Catalog c, int message, int count, String due) {
        c.due("pseudo " + message + " " + count, due.length(), () -> c.x.pseudo(message, count));
        Catalog.text("pseudo " + message + " " + count, due, c.shown());
        Catalog.same("shownLocale", NONE, c.x.shownLocale());
    }

    private static void pseudo() {
        Catalog c = new Catalog();
        c.x.show(0, 0, 0);
        pseudo(c, 0, 0, "[Quuiit]");
        pseudo(c, 1, 1, "[1 fiilee]");
        pseudo(c, 1, 0, "[0 fiilees]");
        pseudo(c, 1, 123456, "[123456 fiilees]");
        pseudo(c, 2, 9, "[OOpeen log]");
        c.due("too wide", Catalog.STATE, () -> c.x.pseudo(1, 1234567));
        c.merge("|aeiouAEIOU yY{{}}[]||\n|{1:s9}{2:s9}||");
        pseudo(c, 0, 0, "[aaeeiioouuAAEEIIOOUU yY{}[]]");
        c.due("not set", Catalog.STATE, () -> c.x.pseudo(1, 0));
        c.pad("aeo");
        c.x.setText(2);
        pseudo(c, 1, 0, "[logaeo]");
    }

    private static void longest() {
        StringBuilder source = new StringBuilder("|");
        for (int i = 0; i < 20; i++) {
            source.append("{").append(i % 2 + 2).append("}");
        }
        Catalog c = new Catalog().merge(source + "||\n|{2:s40}{3:s40}" + "{2}{3}".repeat(7) + "||\n|" + "a".repeat(60) + "||");
        c.pad("x".repeat(40));
        c.x.setText(2);
        c.pad("y".repeat(40));
        c.x.setText(3);
        c.due("texts for numbers", Catalog.STATE, () -> c.x.show(0, 0, 0));
        show(c, 0, 1, 0, ("x".repeat(40) + "y".repeat(40)).repeat(8), NONE);
        pseudo(c, 2, 0, "[" + "a".repeat(120) + "]");
        c.form(0, 1, 5, "{2}".repeat(19) + "{3}");
        show(c, 0, 1, 0, "x".repeat(760) + "y".repeat(40), 0);
        c.due("the last one", 'y', () -> c.x.shownCharacter(799));
        c.due("behind it", NONE, () -> c.x.shownCharacter(800));
    }
}
