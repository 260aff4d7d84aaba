/** Promises 37 and 38: suggestion, adopt. */
final class SuggestionTest {
    private static final int NONE = -1;

    public static void main(String[] args) {
        suggestions();
        adopting();
        adoptingForms();
        Catalog.end();
    }

    private static void list(Catalog c, int locale, int message, int... due) {
        for (int i = 0; i <= due.length; i++) {
            int rank = i;
            c.due("suggestion " + locale + " " + message + " " + rank, rank < due.length ? due[rank] : NONE,
                    () -> c.x.suggestion(locale, message, rank));
        }
        c.due("rank -1", NONE, () -> c.x.suggestion(locale, message, -1));
        c.due("a far rank", NONE, () -> c.x.suggestion(locale, message, Integer.MAX_VALUE));
    }

    /** Obsolete: Save, Quit, file, Open, aaaaaaaa, aaaaaaax; messages: five like these. */
    private static Catalog family() {
        Catalog c = new Catalog().merge("|aaaaaaaa||\n|aaaaaaax||");
        c.form(0, 0, 5, "obsolete a").form(0, 1, 5, "obsolete x");
        c.x.setThreshold(0);
        c.merge("|aaaaaaab||\n|aaaaaaac||\n|aaaaaaaA||\n|aaaaaaad||\n|bbbbbbbb||");
        c.x.setThreshold(30);
        return c;
    }

    private static void suggestions() {
        Catalog c = family();
        Catalog.text("obsolete 4", "aaaaaaaa", c.obsoleteText(4));
        list(c, 0, 0, 104, 105);
        c.form(0, 1, 5, "c").form(0, 2, 5, "A").form(0, 3, 5, "d").form(0, 4, 5, "b");
        list(c, 0, 0, 1, 2, 3, 104, 105);
        list(c, 0, 2, 104, 1, 3, 105);
        list(c, 0, 4);
        list(c, 1, 0);
        // A message is no suggestion for itself, but a ready one asks like another.
        list(c, 0, 1, 2, 3, 104, 105);
        c.x.mark(0, 2, true);
        list(c, 0, 0, 1, 3, 104, 105);
        c.x.setThreshold(18);
        list(c, 0, 0);
        c.x.setThreshold(19);
        list(c, 0, 0, 1, 3, 104, 105);
        for (int locale : new int[] {-1, 2}) {
            c.due("no locale " + locale, Catalog.BOUNDS, () -> c.x.suggestion(locale, 0, 0));
            c.due("adopt, no locale " + locale, Catalog.BOUNDS, () -> c.x.adopt(locale, 0, 9));
        }
        for (int message : new int[] {-1, 5}) {
            c.due("no message " + message, Catalog.BOUNDS, () -> c.x.suggestion(0, message, 0));
            c.due("adopt, no message " + message, Catalog.BOUNDS, () -> c.x.adopt(0, message, 9));
        }
        // The first obsolete one.
        Catalog o = new Catalog();
        o.x.setThreshold(0);
        o.merge("|Save {1:s9}||");
        o.x.setThreshold(60);
        list(o, 0, 0, 100);
        // Partial ones are no suggestions.
        Catalog d = new Catalog().merge("|abcdefgh|abcdefgh|").form(0, 0, 5, "x");
        d.merge("|abcdefgh|abcdefgh|\n|abcdefgh|abcdefgH|");
        list(d, 0, 1);
        d.form(0, 0, 1, "y");
        list(d, 0, 1, 0);
    }

    private static void adopting() {
        Catalog c = family();
        c.due("rank 2", Catalog.ARGUMENT, () -> c.x.adopt(0, 0, 2));
        c.due("rank -1", Catalog.ARGUMENT, () -> c.x.adopt(0, 0, -1));
        c.due("no suggestions", Catalog.ARGUMENT, () -> c.x.adopt(1, 0, 0));
        c.due("an obsolete one", 1, () -> c.x.adopt(0, 0, 1));
        Catalog.text("its form", "obsolete x", c.formText(0, 0, 5));
        c.due("marked", 2, () -> c.x.state(0, 0));
        c.due("in place of it", 1, () -> c.x.adopt(0, 0, 0));
        Catalog.text("the other form", "obsolete a", c.formText(0, 0, 5));
        c.x.undo();
        Catalog.text("back", "obsolete x", c.formText(0, 0, 5));
        c.form(0, 1, 5, "c");
        c.due("a message", 1, () -> c.x.adopt(0, 0, 0));
        Catalog.text("its form too", "c", c.formText(0, 0, 5));
        Catalog.text("which keeps it", "c", c.formText(0, 1, 5));
        c.due("unmarked", 3, () -> c.x.state(0, 1));
    }

    private static void adoptingForms() {
        String[] texts = {"{0} files in the big folder", "{0} files in the big folders"};
        String one = "|" + texts[0] + "|" + texts[1] + "|";
        Catalog c = new Catalog().merge(one + "\n|" + texts[0] + "|" + texts[1] + "!|12\n|" + texts[1] + "||");
        c.form(0, 0, 1, "eine").form(0, 0, 5, "{0} viele").form(1, 1, 1, "{0}");
        c.x.mark(1, 1, true);
        list(c, 0, 1, 0);
        // Also a form that is too wide; the form of the other locale and its mark stay.
        c.due("two forms", 2, () -> c.x.adopt(0, 1, 0));
        Catalog.text("one", "eine", c.formText(0, 1, 1));
        Catalog.text("other", "{0} viele", c.formText(0, 1, 5));
        Catalog.text("locale 1", "{0}", c.formText(1, 1, 1));
        Catalog.same("mark of locale 1", 1, c.x.mark(1, 1, true));
        // Just the category that a message without plural has.
        c.x.setThreshold(60);
        list(c, 0, 2, 0);
        c.due("one form", 1, () -> c.x.adopt(0, 2, 0));
        Catalog.text("other alone", "{0} viele", c.formText(0, 2, 5));
        // All forms are replaced, also by fewer.
        Catalog d = new Catalog().merge("|abcdefghijklmnop|abcdefghijklmnop|\n|abcdefghijklmnop||");
        d.form(0, 0, 1, "a").form(0, 0, 5, "b").form(0, 1, 5, "c");
        d.x.setThreshold(60);
        d.due("fewer", 1, () -> d.x.adopt(0, 0, 0));
        Catalog.text("no form for one", "", d.formText(0, 0, 1));
        Catalog.text("other is new", "c", d.formText(0, 0, 5));
        d.due("partial", 1, () -> d.x.state(0, 0));
        d.due("but marked", 1, () -> d.x.mark(0, 0, true));
        // None that fits: nothing changes, and nothing is saved.
        Catalog e = new Catalog().merge("|abcdefghijklmnop{0}||\n|abcdefghijklmnop{1}||");
        e.form(0, 0, 5, "{0}").form(0, 1, 5, "{1}");
        e.x.mark(0, 1, false);
        String before = e.everything();
        e.due("none", 0, () -> e.x.adopt(0, 1, 0));
        Catalog.text("nothing changes", before, e.everything());
        // A form without placeholder 0 stops to fit when its category covers more.
        Catalog f = new Catalog().merge(one + "\n|" + texts[0] + "|" + texts[1] + "!|");
        f.form(0, 0, 1, "eine").form(0, 0, 5, "{0} viele").rules(0, "one: n = 1..2");
        f.due("one of two", 1, () -> f.x.adopt(0, 1, 0));
        Catalog.text("not the first", "", f.formText(0, 1, 1));
    }
}
