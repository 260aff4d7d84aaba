/** The edges of suggestions and of adopting them. */
final class SuggestionEdgeTest {
    private static final int NONE = -1;

    public static void main(String[] args) {
        whatIsSuggested();
        order();
        numbers();
        adopting();
        noSuchForms();
        undoable();
        howMany();
        Catalog.end();
    }

    private static void list(Catalog c, int locale, int message, int... due) {
        for (int i = 0; i <= due.length; i++) {
            int rank = i;
            c.due("suggestion " + locale + " " + message + " " + rank, rank < due.length ? due[rank] : NONE,
                    () -> c.x.suggestion(locale, message, rank));
        }
    }

    private static void whatIsSuggested() {
        Catalog.promise(37, "Returns a suggestion for a message in a locale.");
        Catalog.promise(37, "a locale");
        Catalog.promise(37, "a message");
        Catalog.promise(37, "The suggestions are the other messages that are ready in the locale "
                + "and similar to the message, and the obsolete messages for which this is so;");
        Catalog c = new Catalog().merge("|aaaaaaaa||\n|aaaaaaab||\n|aaaaaaac|p|\n|zzzzzzzz||");
        list(c, 0, 0);
        c.form(0, 1, 5, "x");
        list(c, 0, 0, 1);
        list(c, 0, 1);
        c.form(0, 0, 5, "y");
        list(c, 0, 0, 1);
        list(c, 0, 1, 0);
        list(c, 0, 3);
        list(c, 1, 0);
        c.x.mark(0, 1, true);
        list(c, 0, 0);
        c.x.mark(0, 1, false);
        // A plural message is ready with all its forms; then it costs 10 + 3 here.
        c.x.setThreshold(60);
        c.merge("|" + "a".repeat(30) + "||\n|" + "a".repeat(29) + "b|p|");
        c.form(0, 1, 5, "z");
        list(c, 0, 0);
        c.form(0, 1, 1, "z");
        list(c, 0, 0, 1);
        // 200 * 13 is at most 22 * 120, but not 21 * 120.
        c.x.setThreshold(22);
        list(c, 0, 0, 1);
        c.x.setThreshold(21);
        list(c, 0, 0);
        // Obsolete ones: ready, partial, marked, and missing in the locale.
        Catalog d = new Catalog().merge("|aaaaaaaa||\n|aaaaaaab|p|\n|aaaaaaac||\n|aaaaaaad||\n|aaaaaaae||");
        d.form(0, 0, 5, "x").form(0, 1, 5, "x").form(0, 2, 5, "x").form(1, 3, 5, "x").form(0, 4, 5, "x");
        d.x.mark(0, 2, true);
        d.x.setThreshold(0);
        d.merge("|aaaaaaax||");
        d.x.setThreshold(30);
        list(d, 0, 0, 104, 108);
        list(d, 1, 0, 107);
    }

    private static void order() {
        Catalog.promise(37, "they are ordered by their costs, and for equal costs messages come first, "
                + "by their numbers, then obsolete messages, by their positions.");
        Catalog c = new Catalog().merge("|aaaaaaaX||\n|aaaaaaaY||\n|AAaaaaaa||");
        c.form(0, 0, 5, "X").form(0, 1, 5, "Y").form(0, 2, 5, "AA");
        c.x.setThreshold(0);
        c.merge("|aaaaaaab||\n|aaaaaaac||\n|aaaaaaaa||\n|aaaaaaad||\n|Aaaaaaaa||\n|aaaaaaaax||");
        for (int m : new int[] {0, 1, 3, 4, 5}) {
            c.form(0, m, 5, "f" + m);
        }
        c.x.setThreshold(60);
        // For aaaaaaaa: A.. costs 1, aaaaaaaax 2, AA.. 2, and 3 each of the others.
        list(c, 0, 2, 4, 5, 106, 0, 1, 3, 104, 105);
        c.x.untranslate(0, 0);
        list(c, 0, 2, 4, 5, 106, 1, 3, 104, 105);
        c.x.undo();
        c.x.mark(0, 4, true);
        list(c, 0, 2, 5, 106, 0, 1, 3, 104, 105);
        // The first message of all at the end of the order.
        Catalog d = new Catalog().merge("|aaaaaaab||\n|aaaaaaaa||\n|aaaaaaaA||");
        d.form(0, 0, 5, "x").form(0, 2, 5, "y");
        list(d, 0, 1, 2, 0);
    }

    private static void numbers() {
        Catalog.promise(37, "the position of the suggestion, from 0");
        Catalog.promise(37, "Returns its number, or, for an obsolete message, 100 + its position; "
                + "NONE if there is no such rank.");
        Catalog c = new Catalog();
        c.x.setThreshold(0);
        c.merge("|Save {1:s9}||\n|Quit||").merge("|Save {2:s9}||");
        c.x.setThreshold(60);
        // The obsolete ones: Save, file, Open, Quit.
        list(c, 0, 0, 100);
        for (int rank : new int[] {-1, 1, Integer.MIN_VALUE, Integer.MAX_VALUE}) {
            c.due("rank " + rank, NONE, () -> c.x.suggestion(0, 0, rank));
        }
        // The last message and the last obsolete one that there can be.
        StringBuilder text = new StringBuilder();
        for (int i = 0; i < 24; i++) {
            text.append(i == 0 ? "" : "\n").append("|").append((char) ('a' + i)).append("bcd||");
        }
        Catalog d = new Catalog().merge(text.toString());
        for (int m = 0; m < 24; m++) {
            d.form(0, m, 5, "f" + m);
        }
        d.x.setThreshold(0);
        d.merge(text.toString().replace("bcd", "bce").replace("xbce", "bcd"));
        d.x.setThreshold(60);
        Catalog.same("16 obsolete ones", 16, d.x.obsolete());
        Catalog.text("the last one", "xbcd", d.obsoleteText(15));
        // The last message is bcd, 2 from each of them.
        for (int rank = 0; rank < 16; rank++) {
            int each = rank;
            d.due("obsolete one " + rank, 100 + rank, () -> d.x.suggestion(0, 23, each));
        }
        d.due("behind the last one", NONE, () -> d.x.suggestion(0, 23, 16));
        d.form(0, 23, 5, "x");
        d.due("not itself", 100, () -> d.x.suggestion(0, 23, 0));
        Catalog e = new Catalog().merge(text.toString()).form(0, 23, 5, "x");
        e.x.setThreshold(60);
        list(e, 0, 22, 23);
        list(e, 0, 23);
        e.form(0, 0, 5, "y");
        list(e, 0, 22, 0, 23);
        list(e, 0, 23, 0);
    }

    /** Two plural messages that are similar, the first one with forms in both locales. */
    private static Catalog twins() {
        String[] texts = {"{0} files in the big folder", "{0} files in the big folders"};
        Catalog c = new Catalog().merge("|" + texts[0] + "|" + texts[1] + "|\n|" + texts[0] + "|" + texts[1] + "!|12\n|"
                + texts[1] + "||");
        return c.form(0, 0, 1, "eine").form(0, 0, 5, "{0} viele").form(1, 0, 1, "{0} f");
    }

    private static void adopting() {
        Catalog.promise(38, "Replaces all forms of a message in a locale by those forms of a suggestion "
                + "that belong to a category of the message in the locale and fit the message; "
                + "the message is marked then.");
        Catalog.promise(38, "a locale");
        Catalog.promise(38, "a message");
        Catalog.promise(38, "the position of the suggestion, from 0");
        Catalog c = twins();
        c.due("both forms, though one is too wide", 2, () -> c.x.adopt(0, 1, 0));
        Catalog.text("one", "eine", c.formText(0, 1, 1));
        Catalog.text("other", "{0} viele", c.formText(0, 1, 5));
        c.due("marked", 2, () -> c.x.state(0, 1));
        c.due("the suggestion keeps its own", 3, () -> c.x.state(0, 0));
        c.due("nothing in locale 1", 0, () -> c.x.state(1, 1));
        // No plural message has other alone.
        Catalog d = twins();
        d.x.setThreshold(60);
        d.due("one form", 1, () -> d.x.adopt(0, 2, 0));
        Catalog.text("other alone", "{0} viele", d.formText(0, 2, 5));
        // What the message had is gone, also where the suggestion has nothing.
        Catalog e = new Catalog().merge("|abcdefghijklmnop|abcdefghijklmnop|\n|abcdefghijklmnop||");
        e.form(0, 0, 1, "a").form(0, 0, 5, "b").form(0, 1, 5, "c").form(1, 0, 5, "d");
        e.x.setThreshold(60);
        e.due("fewer", 1, () -> e.x.adopt(0, 0, 0));
        Catalog.text("one is gone", "", e.formText(0, 0, 1));
        Catalog.text("other is new", "c", e.formText(0, 0, 5));
        Catalog.text("locale 1 keeps its own", "d", e.formText(1, 0, 5));
        e.due("marked, though partial", 1, () -> e.x.mark(0, 0, true));
        // A form without {0} fits as long as its category covers one number.
        for (int last = 1; last <= 2; last++) {
            Catalog f = twins().rules(0, "one:n=1.." + last);
            int due = last == 1 ? 2 : 1;
            f.due("one covers " + last, due, () -> f.x.adopt(0, 1, 0));
            Catalog.text("one", last == 1 ? "eine" : "", f.formText(0, 1, 1));
        }
        // Of an obsolete one.
        Catalog g = new Catalog();
        g.x.setThreshold(0);
        g.merge("|save {0:s9}||");
        g.x.setThreshold(30);
        g.due("the obsolete one", 1, () -> g.x.adopt(0, 0, 0));
        Catalog.text("its form", "{0} sichern", g.formText(0, 0, 5));
        Catalog.same("it stays", 4, g.x.obsolete());
        // The rank that is asked for.
        Catalog h = new Catalog().merge("|aaaaaaaa||\n|aaaaaaab||\n|aaaaaaaA||").form(0, 1, 5, "b").form(0, 2, 5, "A");
        h.x.adopt(0, 0, 1);
        Catalog.text("rank 1", "b", h.formText(0, 0, 5));
        h.x.adopt(0, 0, 0);
        Catalog.text("rank 0", "A", h.formText(0, 0, 5));
        h.due("no rank 2", Catalog.ARGUMENT, () -> h.x.adopt(0, 0, 2));
    }

    /** Message 0 with a form and a mark, and message 1 that has another placeholder. */
    private static Catalog strangers() {
        Catalog c = new Catalog().merge("|abcdefghijklmnop{1}||\n|abcdefghijklmnop{2}||");
        c.form(0, 0, 5, "{1} a").form(0, 1, 5, "{2} b").form(1, 1, 5, "{2} c").pad("pad");
        c.x.mark(0, 0, true);
        return c;
    }

    private static void noSuchForms() {
        Catalog.promise(38, "If there are no such forms, nothing changes. Undoable if there are such forms.");
        Catalog.promise(38, "Returns how many forms the message has got.");
        Catalog c = strangers();
        c.due("there is a suggestion", 1, () -> c.x.suggestion(0, 0, 0));
        c.due("none of its forms fits", 0, () -> c.x.adopt(0, 0, 0));
        Catalog.text("the form stays", "{1} a", c.formText(0, 0, 5));
        c.due("the mark stays", 2, () -> c.x.state(0, 0));
        c.due("where it has no form", 0, () -> c.x.adopt(1, 0, 0));
        c.due("it has none still", 0, () -> c.x.state(1, 0));
        Catalog.text("nothing changes", Report.of(SuggestionEdgeTest::strangers), Report.of(() -> {
            Catalog d = strangers();
            d.x.adopt(0, 0, 0);
            d.x.adopt(1, 0, 0);
            return d;
        }));
    }

    private static void undoable() {
        Catalog c = twins();
        long before = c.x.checksum();
        c.x.adopt(0, 1, 0);
        c.due("undo", 4, () -> c.x.undo());
        Catalog.same("as before", before, c.x.checksum());
        c.due("no form again", 0, () -> c.x.state(0, 1));
    }

    private static void howMany() {
        String[] names = {"zero", "one", "two", "few", "many"};
        StringBuilder rules = new StringBuilder();
        for (int count = 0; count < 5; count++) {
            rules.append(count == 0 ? "" : ";").append(names[count]).append(":n=").append(count);
            Catalog c = new Catalog().merge("|aaaaaaaa|p|\n|aaaaaaab|p|").rules(0, rules.toString());
            for (int category = 0; category <= count; category++) {
                c.form(0, 1, category, "x" + category);
            }
            c.form(0, 1, 5, "x5");
            c.due("all of them", count + 2, () -> c.x.adopt(0, 0, 0));
            for (int category = 0; category <= count; category++) {
                Catalog.text("form " + category, "x" + category, c.formText(0, 0, category));
            }
        }
    }
}
