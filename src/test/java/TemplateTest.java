/** Promises 16 to 19 and 25: stage, unstage, merge, merged, origin. */
final class TemplateTest {
    private static final int NONE = -1;

    public static void main(String[] args) {
        staging();
        exactMerge();
        similarMerge();
        order();
        threshold();
        suitableForms();
        obsolete();
        dropped();
        Catalog.end();
    }

    private static String lines(String letters) {
        StringBuilder text = new StringBuilder();
        for (int i = 0; i < letters.length(); i++) {
            text.append(i == 0 ? "" : "\n").append('|').append(letters.charAt(i)).append("||");
        }
        return text.toString();
    }

    private static void results(Catalog c, int... due) {
        for (int i = 0; i < 5; i++) {
            Catalog.same("result " + i, due[i], c.x.merged(i));
        }
    }

    private static void staging() {
        Catalog c = new Catalog();
        c.due("an empty pad", Catalog.ARGUMENT, () -> c.x.stage());
        c.pad("|a||\n|b||5");
        c.due("two", 2, () -> c.x.stage());
        c.due("the same again", Catalog.ARGUMENT, () -> c.x.stage());
        c.pad("x|a|c|");
        c.due("three", 3, () -> c.x.stage());
        Catalog.same("messages stay", 3, c.x.messages());
        c.due("nothing to undo", Catalog.STATE, () -> c.x.undo());
        c.due("the pad stays", 6, () -> c.x.clearPad());
        c.due("unstage", 3, () -> c.x.unstage());
        c.due("unstage again", 0, () -> c.x.unstage());
        c.due("merge", Catalog.STATE, () -> c.x.merge());
        c.stage(lines("abcdefghijklmnopqrstuvw"));
        c.pad("|x||");
        c.due("24", 24, () -> c.x.stage());
        c.pad("|y||");
        c.due("25", Catalog.ARGUMENT, () -> c.x.stage());
        c.due("merge 24", 24, () -> c.x.merge());
        c.due("gone", Catalog.STATE, () -> c.x.merge());
        Catalog.text("the last one", "x", c.part(23, 1));
        c.x.undo();
        c.due("gone after undo, too", Catalog.STATE, () -> c.x.merge());
    }

    private static void exactMerge() {
        Catalog c = new Catalog();
        c.x.mark(0, 0, true);
        c.stage("menu|Open {1:s9}||44\n|{0:d6} file|{0:d6} files|\n|Quit||\n|Brand new text||");
        c.due("merge", 4, () -> c.x.merge());
        results(c, 3, 0, 1, 0, 0);
        c.due("result -1", Catalog.ARGUMENT, () -> c.x.merged(-1));
        c.due("result 5", Catalog.ARGUMENT, () -> c.x.merged(5));
        int[] origins = {2, 1, 0, NONE};
        int[] limits = {44, NONE, NONE, NONE};
        int[] states = {3, 3, 2, 0};
        for (int i = 0; i < 4; i++) {
            Catalog.same("origin " + i, origins[i], c.x.origin(i));
            Catalog.same("limit " + i, limits[i], c.x.limit(i));
            Catalog.same("state " + i, states[i], c.x.state(0, i));
        }
        Catalog.text("form", "{1} laden", c.formText(0, 0, 5));
        Catalog.text("form of the other locale", "{0} fajla", c.formText(1, 1, 3));
        Catalog.text("marked form", "Ende", c.formText(0, 2, 5));
        Catalog.same("obsolete", 1, c.x.obsolete());
        c.due("no such message", Catalog.BOUNDS, () -> c.x.origin(4));
        c.due("no such message below", Catalog.BOUNDS, () -> c.x.origin(-1));
        c.x.undo();
        Catalog.same("origins come back", NONE, c.x.origin(0));
        results(c, 3, 0, 1, 0, 0);
        c.merge("|Quit||").form(0, 0, 5, "Aus");
        Catalog.same("an origin stays", 0, c.x.origin(0));
        c.stage("|one||1").stage("x|two|three|2\n|four||").stage("|five||");
        c.x.merge();
        String[] keys = {"/one/", "x/two/three", "/four/", "/five/"};
        for (int i = 0; i < keys.length; i++) {
            Catalog.text("staged " + i, keys[i], c.part(i, 0) + "/" + c.part(i, 1) + "/" + c.part(i, 2));
            Catalog.same("its limit", i == 0 ? 1 : i == 1 ? 2 : NONE, c.x.limit(i));
        }
        // Another context, source or plural text is another message.
        Catalog d = new Catalog();
        d.x.setThreshold(0);
        d.merge("x|Quit||8\n|quit||8\n|{0:d6} file|{0:d6} Files|\n|{0:d6} file||\nmenu|Open {1:s8}||");
        // The last one has just another width, which costs nothing.
        results(d, 0, 1, 4, 2, 0);
        Catalog.same("its origin", 2, d.x.origin(4));
    }

    private static void similarMerge() {
        Catalog c = new Catalog();
        c.merge("|quit||3");
        results(c, 0, 1, 0, 2, 0);
        Catalog.same("origin", 0, c.x.origin(0));
        Catalog.text("form", "Ende", c.formText(0, 0, 5));
        Catalog.same("marked, though too wide", 2, c.x.state(0, 0));
        Catalog.same("limit", 3, c.x.limit(0));
        Catalog.same("obsolete", 3, c.x.obsolete());
        String[] sources = {"Save {0:s9}", "{0:d6} file", "Open {1:s9}"};
        for (int k = 0; k < 3; k++) {
            Catalog.text("obsolete " + k, sources[k], c.obsoleteText(k));
        }
        // An exact match has the mark that it had, and is taken before a similar one.
        Catalog d = new Catalog().merge("|quit||\n|Quit||");
        results(d, 1, 0, 1, 2, 0);
        Catalog.same("similar, but too late", NONE, d.x.origin(0));
        Catalog.same("exact", 0, d.x.origin(1));
        Catalog.same("not marked", 3, d.x.state(0, 1));
        // Similar to an obsolete one.
        Catalog e = new Catalog().merge("|save {0:s8}||");
        Catalog.same("from the obsolete ones", 3, e.x.origin(0));
        Catalog.text("its form", "{0} sichern", e.formText(0, 0, 5));
        results(e, 0, 1, 0, 3, 0);
        Catalog.text("it is used", "Quit", e.obsoleteText(0));
        Catalog.same("and gone", 3, e.x.obsolete());
        // One without forms is no origin.
        Catalog f = new Catalog();
        f.x.untranslate(0, 0);
        f.merge("|quit||");
        Catalog.same("no forms", NONE, f.x.origin(0));
        results(f, 0, 0, 1, 2, 0);
        f.merge("|quit||5");
        Catalog.same("exact without forms", 0, f.x.origin(0));
    }

    private static void order() {
        Catalog c = new Catalog().merge("|aaaa||\n|aaab||");
        c.form(0, 0, 5, "fa").form(0, 1, 5, "fb");
        c.x.setThreshold(60);
        // The cheapest pair comes first, though a message before it would take the same origin.
        c.merge("|aaac||\n|aaaA||");
        Catalog.same("the rest", 1, c.x.origin(0));
        Catalog.same("the cheapest", 0, c.x.origin(1));
        Catalog.text("form of the rest", "fb", c.formText(0, 0, 5));
        Catalog.text("form of the cheapest", "fa", c.formText(0, 1, 5));
        c.x.undo();
        c.merge("|aaac||\n|aaad||\n|aaae||");
        Catalog.same("equal costs, first", 0, c.x.origin(0));
        Catalog.same("equal costs, second", 1, c.x.origin(1));
        Catalog.same("equal costs, none left", NONE, c.x.origin(2));
        // Messages stand before obsolete messages in the pool.
        Catalog d = new Catalog().merge("|aaaa||").form(0, 0, 5, "old").merge("|bbbbbb||");
        Catalog.text("obsolete", "aaaa", d.obsoleteText(4));
        d.merge("|aaab||").form(0, 0, 5, "new");
        d.x.setThreshold(60);
        d.merge("|aaac||\n|aaad||");
        Catalog.same("the message", 0, d.x.origin(0));
        Catalog.same("the obsolete one", 5, d.x.origin(1));
        Catalog.text("its form", "old", d.formText(0, 1, 5));
        results(d, 0, 2, 0, 0, 0);
    }

    private static void threshold() {
        // 4 * 200 = 40 * (8 + 12): just similar.
        for (int percent : new int[] {39, 40}) {
            Catalog c = new Catalog();
            c.x.setThreshold(percent);
            c.merge("|Quitxx||");
            Catalog.same("threshold " + percent, percent == 40 ? 0 : NONE, c.x.origin(0));
        }
        // Another context costs 5: 5 * 200 = 50 * 20. One plural pattern costs 10: 10 * 200 = 50 * 40.
        for (int percent : new int[] {49, 50}) {
            Catalog c = new Catalog().merge("|aaaaa||").form(0, 0, 5, "x");
            c.x.setThreshold(percent);
            c.merge("m|aaaaa||");
            Catalog.same("context, threshold " + percent, percent == 50 ? 0 : NONE, c.x.origin(0));
            Catalog d = new Catalog().merge("|aaaaaaaaaa||").form(0, 0, 5, "x");
            d.x.setThreshold(percent);
            d.merge("|aaaaaaaaaa|b|");
            Catalog.same("plural, threshold " + percent, percent == 50 ? 0 : NONE, d.x.origin(0));
        }
    }

    private static void suitableForms() {
        String plural = "|{0:d6} files in the folder|{0:d6} files in the folders|";
        Catalog c = new Catalog().merge(plural).form(0, 0, 1, "eine").form(0, 0, 5, "{0} viele").form(1, 0, 1, "{0} f");
        // No plural message any more: other alone.
        c.merge("|{0:d6} files in the folder!||");
        Catalog.same("origin", 0, c.x.origin(0));
        Catalog.text("other", "{0} viele", c.formText(0, 0, 5));
        Catalog.text("no longer one", "", c.formText(0, 0, 1));
        Catalog.same("marked", 2, c.x.state(0, 0));
        Catalog.same("nothing in locale 1", 0, c.x.state(1, 0));
        c.form(1, 0, 5, "{0} f");
        Catalog.same("no mark in locale 1", 0, c.x.mark(1, 0, false));
        c.x.undo();
        c.x.undo();
        c.x.undo();
        // The form for a single number fits without placeholder 0.
        c.merge("|{0:d6} files in the folder|{0:d6} files in the folder!|");
        Catalog.text("one", "eine", c.formText(0, 0, 1));
        Catalog.text("other too", "{0} viele", c.formText(0, 0, 5));
        Catalog.same("partial and marked in locale 1", 1, c.x.mark(1, 0, true));
        c.x.undo();
        c.x.undo();
        // It does not fit any more when the category covers more numbers.
        c.rules(0, "one: n = 1..2");
        c.merge("|{0:d6} files in the folder|{0:d6} files in the folder!|");
        Catalog.text("one does not fit", "", c.formText(0, 0, 1));
        Catalog.text("other fits", "{0} viele", c.formText(0, 0, 5));
        Catalog.same("marked all the same", 1, c.x.mark(0, 0, true));
        c.x.undo();
        c.x.undo();
        // No form fits: an origin all the same, but no mark.
        c.merge("|{1:d6} files in the folder|{1:d6} files in the folders|");
        Catalog.same("origin without forms", 0, c.x.origin(0));
        results(c, 0, 1, 0, 0, 0);
        Catalog.same("no forms", 0, c.x.state(0, 0));
        Catalog.same("no mark", 0, marksWithoutForms() ? 1 : 0);
    }

    /** Whether an origin without suitable forms makes another state than one without forms. */
    private static boolean marksWithoutForms() {
        long[] checksums = new long[2];
        for (int i = 0; i < 2; i++) {
            Catalog c = new Catalog().merge("|abcdefghijklmnop{0}||").form(0, 0, 5, "{0}");
            for (int k = 0; k < 6; k++) {
                c.x.setThreshold(60);
            }
            if (i == 1) {
                c.x.untranslate(0, 0);
            }
            c.merge("|abcdefghijklmnop{1}||");
            Catalog.same("origin " + i, i == 0 ? 0 : NONE, c.x.origin(0));
            checksums[i] = c.x.checksum();
        }
        return checksums[0] != checksums[1];
    }

    private static void obsolete() {
        Catalog c = new Catalog().merge("|Save {0:s9}||");
        Catalog.same("origin behind the messages", 3, c.x.origin(0));
        results(c, 1, 0, 0, 3, 0);
        c.merge("|Quit||");
        Catalog.same("the first obsolete one", 1, c.x.origin(0));
        Catalog.same("none has a limit now", NONE, c.x.limit(0));
        results(c, 1, 0, 0, 1, 0);
        String[] sources = {"{0:d6} file", "Open {1:s9}", "Save {0:s9}"};
        for (int k = 0; k < 3; k++) {
            Catalog.text("obsolete " + k, sources[k], c.obsoleteText(k));
        }
        // One without forms is forgotten.
        c.x.untranslate(0, 0);
        c.merge("|zzz||");
        results(c, 0, 0, 1, 0, 0);
        Catalog.same("as many", 3, c.x.obsolete());
        c.merge("|Quit||");
        Catalog.same("forgotten", NONE, c.x.origin(0));
        c.due("obsolete character", '{', () -> c.x.obsoleteCharacter(0, 0));
        c.due("its last character", 'e', () -> c.x.obsoleteCharacter(0, 10));
        c.due("behind it", NONE, () -> c.x.obsoleteCharacter(0, 11));
        c.due("before it", NONE, () -> c.x.obsoleteCharacter(0, -1));
        c.due("no such one", Catalog.BOUNDS, () -> c.x.obsoleteCharacter(3, 0));
        c.due("no such one below", Catalog.BOUNDS, () -> c.x.obsoleteCharacter(-1, 0));
    }

    private static void dropped() {
        Catalog c = new Catalog().merge(lines("abcdefghijklmnopqrst"));
        for (int i = 0; i < 20; i++) {
            c.form(0, i, 5, "x");
        }
        c.merge("|zzzzzz||");
        results(c, 0, 0, 1, 20, 8);
        Catalog.same("16 stay", 16, c.x.obsolete());
        for (int k = 0; k < 16; k++) {
            Catalog.text("obsolete " + k, "" + (char) ('e' + k), c.obsoleteText(k));
        }
        c.form(0, 0, 5, "z").merge("|yyyyyy||");
        results(c, 0, 0, 1, 1, 1);
        Catalog.text("the first one goes", "f", c.obsoleteText(0));
        Catalog.text("the last one comes", "zzzzzz", c.obsoleteText(15));
        // A used one leaves room.
        c.form(0, 0, 5, "y").merge("|f||");
        results(c, 1, 0, 0, 1, 0);
        Catalog.same("origin", 1, c.x.origin(0));
        Catalog.same("16 again", 16, c.x.obsolete());
        c.x.undo();
        Catalog.text("back", "f", c.obsoleteText(0));
    }
}
