/** Promise 1: a new object. */
final class NewObjectTest {
    public static void main(String[] args) {
        Catalog c = new Catalog();
        Catalog.term("EXCEPTIONS", "The constants: `NONE = -1`: Returned where there is no such value.");
        Catalog.same("NONE", -1, TranslationCatalog.NONE);
        Catalog.same("checksum", -8173276993191672226L, c.x.checksum());
        Catalog.same("pad", 0, c.x.clearPad());
        locales(c);
        messages(c);
        rest(c);
        Catalog.end();
    }

    private static void locales(Catalog c) {
        Catalog.term("AT FIRST", "There are two locales. Locale 0 has no parent, the rules \"one: n = 1\", "
                + "the separator 46 and the group size 3. Locale 1 has the parent 0, the rules \"one: n % 10 = 1 "
                + "and n % 100 != 11; few: n % 10 = 2..4 and n % 100 != 12..14\", the separator 32 and the group size 3.");
        Catalog.same("locales", 2, c.x.locales());
        Catalog.same("parent 0", -1, c.x.parent(0));
        Catalog.same("parent 1", 0, c.x.parent(1));
        int[][] categories = {{1, 5, -1}, {1, 3, 5, -1}};
        for (int locale = 0; locale < 2; locale++) {
            for (int i = 0; i < categories[locale].length; i++) {
                Catalog.same("categoryAt " + locale + " " + i, categories[locale][i], c.x.categoryAt(locale, i));
            }
        }
        for (int n = 0; n < 300; n++) {
            Catalog.same("category 0 " + n, n == 1 ? 1 : 5, c.x.category(0, n));
            boolean one = n % 10 == 1 && n % 100 != 11;
            boolean few = n % 10 >= 2 && n % 10 <= 4 && !(n % 100 >= 12 && n % 100 <= 14);
            Catalog.same("category 1 " + n, one ? 1 : few ? 3 : 5, c.x.category(1, n));
        }
        Catalog.same("grouping 0", 463, c.x.setGrouping(0, 46, 3));
        Catalog.same("grouping 1", 323, c.x.setGrouping(1, 32, 3));
        c.x.undo();
        c.x.undo();
    }

    private static void messages(Catalog c) {
        Catalog.term("AT FIRST",
                "There are three messages without marks; their forms are given as locale, category: pattern.");
        Catalog.term("AT FIRST", "0: no context, source \"Quit\", limit 8. Forms: 0, 5: \"Ende\". "
                + "1: no context, source \"{0:d6} file\", plural \"{0:d6} files\", limit 16. Forms: "
                + "0, 1: \"{0} Datei\"; 0, 5: \"{0} Dateien\"; 1, 1: \"{0} fajl\"; 1, 3: \"{0} fajla\". "
                + "2: context \"menu\", source \"Open {1:s9}\", no limit. Forms: 0, 5: \"{1} laden\".");
        Catalog.same("messages", 3, c.x.messages());
        String[][] parts = {
            {"", "Quit", ""}, {"", "{0:d6} file", "{0:d6} files"}, {"menu", "Open {1:s9}", ""}};
        int[] limits = {8, 16, -1};
        for (int message = 0; message < 3; message++) {
            for (int part = 0; part < 3; part++) {
                Catalog.text("part " + message + " " + part, parts[message][part], c.part(message, part));
            }
            Catalog.same("limit " + message, limits[message], c.x.limit(message));
            Catalog.same("origin " + message, -1, c.x.origin(message));
        }
        Catalog.same("placeholder 1 0", 6, c.x.placeholder(1, 0));
        Catalog.same("placeholder 2 1", 109, c.x.placeholder(2, 1));
        String[][] forms = {
            {"0", "0", "5", "Ende"}, {"0", "1", "1", "{0} Datei"}, {"0", "1", "5", "{0} Dateien"},
            {"1", "1", "1", "{0} fajl"}, {"1", "1", "3", "{0} fajla"}, {"0", "2", "5", "{1} laden"}};
        int[][] states = {{3, 3, 3}, {0, 1, 0}};
        for (int locale = 0; locale < 2; locale++) {
            for (int message = 0; message < 3; message++) {
                Catalog.same("state " + locale + " " + message, states[locale][message], c.x.state(locale, message));
                for (int category = 0; category < 6; category++) {
                    String due = "";
                    for (String[] form : forms) {
                        String place = "" + locale + message + category;
                        due = place.equals(form[0] + form[1] + form[2]) ? form[3] : due;
                    }
                    Catalog.text("form " + locale + message + category, due, c.formText(locale, message, category));
                }
            }
        }
        Catalog.term("AT FIRST", "There is one obsolete message: no context, source \"Save {0:s9}\", no limit. "
                + "Forms: 0, 5: \"{0} sichern\".");
        Catalog.same("obsolete", 1, c.x.obsolete());
        Catalog.text("obsolete 0", "Save {0:s9}", c.obsoleteText(0));
    }

    private static void rest(Catalog c) {
        for (int code = 32; code <= 126; code++) {
            Catalog.same("width " + code, 1, c.x.setWidth(code, 1));
        }
        for (int what = 0; what < 5; what++) {
            Catalog.same("merged " + what, 0, c.x.merged(what));
        }
        Catalog.term("AT FIRST", "Argument 1 is the text \"log\"; the other arguments are not set. "
                + "Nothing is staged, shown or saved.");
        Catalog fresh = new Catalog();
        Catalog.same("threshold", 30, fresh.x.setThreshold(30));
        fresh.x.undo();
        fresh.due("nothing saved", Catalog.STATE, () -> fresh.x.undo());
        fresh.due("nothing staged", Catalog.STATE, () -> fresh.x.merge());
        Catalog.same("unstage", 0, fresh.x.unstage());
        Catalog.same("shownLocale", -1, fresh.x.shownLocale());
        Catalog.same("shownCharacter", -1, fresh.x.shownCharacter(0));
        fresh.x.pseudo(2, 0);
        Catalog.text("argument 1", "[OOpeen log]", fresh.shown());
        for (int index = 0; index < 10; index++) {
            Catalog.same("argument " + index, index == 1 ? 2 : 0, fresh.x.setNumber(index, 5));
        }
        // The obsolete message with its form: it is the only suggestion for a message like it.
        Catalog again = new Catalog().merge("|Save {0:s9}||");
        Catalog.text("form of the obsolete message", "{0} sichern", again.formText(0, 0, 5));
        Catalog.same("its place in the pool", 3, again.x.origin(0));
        Catalog.same("its limit", -1, again.x.limit(0));
    }
}
