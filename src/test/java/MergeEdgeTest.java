/** The edges of merging: the three steps, the pool, and the 16 obsolete messages. */
final class MergeEdgeTest {
    private static final int NONE = -1;

    public static void main(String[] args) {
        stagedBecomeMessages();
        pool();
        sameTexts();
        formsAndMarks();
        pairs();
        poolOfOne();
        leastCost();
        equalCosts();
        suitableForms();
        repeated();
        obsoleteOnes();
        sixteen();
        stagedAreGone();
        merging();
        results();
        Catalog.end();
    }

    private static void results(Catalog c, int... due) {
        for (int what = 0; what < 5; what++) {
            Catalog.same("result " + what, due[what], c.x.merged(what));
        }
    }

    private static void origins(Catalog c, int... due) {
        for (int m = 0; m < due.length; m++) {
            Catalog.same("origin of " + m, due[m], c.x.origin(m));
        }
    }

    private static String lines(int from, int to) {
        StringBuilder text = new StringBuilder();
        for (int i = from; i < to; i++) {
            text.append(i == from ? "" : "\n").append('|').append((char) ('a' + i)).append("||");
        }
        return text.toString();
    }

    /** So many messages with a form in locale 0, and the four obsolete ones of a new object. */
    private static Catalog withForms(int count) {
        Catalog c = new Catalog().merge(lines(0, count));
        for (int m = 0; m < count; m++) {
            c.form(0, m, 5, "f" + (char) ('a' + m));
        }
        return c;
    }

    private static void stagedBecomeMessages() {
        Catalog.term("TEMPLATES AND MERGING",
                "To merge means: the staged messages become the messages, in their order.");
        Catalog c = new Catalog().stage("|z||3\nc|b|p|").stage("|a||");
        c.due("merge", 3, () -> c.x.merge());
        String[] due = {"/z//3", "c/b/p/-1", "/a//-1"};
        for (int m = 0; m < 3; m++) {
            Catalog.text("message " + m, due[m],
                    c.part(m, 0) + "/" + c.part(m, 1) + "/" + c.part(m, 2) + "/" + c.x.limit(m));
            Catalog.same("no form", 0, c.x.state(0, m));
        }
    }

    private static void pool() {
        Catalog.term("TEMPLATES AND MERGING", "The old messages, in their order, and then the obsolete messages, "
                + "in their order, are the pool.");
        Catalog c = new Catalog().merge("|Save {0:s9}||\nmenu|Open {1:s9}||\n|{0:d6} file|{0:d6} files|\n|Quit||");
        origins(c, 3, 2, 1, 0);
        Catalog d = withForms(2).merge("|Quit||\n|b||\n|Save {0:s9}||\nmenu|Open {1:s9}||\n|a||");
        // The pool: a, b, Save, Quit, file, Open.
        origins(d, 3, 1, 2, 5, 0);
        results(d, 5, 0, 0, 0, 0);
        Catalog.same("what is left", 1, d.x.obsolete());
        Catalog.text("what is left", "{0:d6} file", d.obsoleteText(0));
    }

    private static void sameTexts() {
        Catalog.term("TEMPLATES AND MERGING", "1. For each new message, in order: if there is an unused one in the pool "
                + "with the same context, source text and plural text, the first one of these is its origin, and is used;");
        Catalog c = new Catalog().merge("x|a|b|\n|c||");
        c.x.setThreshold(0);
        c.merge("x|a|b|9\ny|a|b|\n|a|b|\nx|A|b|\nx|aa|b|\nx|a|c|\nx|a|bb|\nx|a||\n|c||");
        origins(c, 0, NONE, NONE, NONE, NONE, NONE, NONE, NONE, 1);
        results(c, 2, 0, 7, 0, 0);
        // Also one without forms, and one with another limit.
        Catalog.same("no form", 0, c.x.state(0, 0));
        Catalog.same("its own limit", 9, c.x.limit(0));
        // Exact ones come first, though a similar one stands before them.
        Catalog d = new Catalog().merge("|quit||\n|Quit||");
        origins(d, NONE, 0);
        results(d, 1, 0, 1, 2, 0);
        // The texts are compared, not what they mean.
        Catalog e = new Catalog().merge("|{1}||").form(0, 0, 5, "{1}");
        e.x.setThreshold(0);
        e.merge("|{1:d10}||");
        results(e, 0, 1, 0, 0, 0);
    }

    private static void formsAndMarks() {
        Catalog.term("TEMPLATES AND MERGING", "the new message gets all its forms and marks.");
        Catalog c = new Catalog();
        c.x.mark(1, 1, true);
        c.x.mark(0, 0, true);
        c.merge("|{0:d6} file|{0:d6} files|1\n|Quit||1\nmenu|Open {1:s9}||");
        String[] forms = {"0 0 1 {0} Datei", "0 0 5 {0} Dateien", "1 0 1 {0} fajl", "1 0 3 {0} fajla", "0 1 5 Ende",
            "0 2 5 {1} laden"};
        for (String form : forms) {
            Catalog.text(form, form.substring(6),
                    c.formText(form.charAt(0) - '0', form.charAt(2) - '0', form.charAt(4) - '0'));
        }
        // Though they are too wide for the new limit.
        Catalog.same("wide", 4, c.x.formWidth(0, 1, 5));
        Catalog.same("marked in locale 1", 1, c.x.mark(1, 0, true));
        Catalog.same("not marked in locale 0", 0, c.x.mark(0, 0, false));
        Catalog.same("marked", 2, c.x.state(0, 1));
        Catalog.same("not marked", 3, c.x.state(0, 2));
        // From an obsolete one, too.
        Catalog d = new Catalog();
        d.x.mark(1, 1, true);
        d.merge("|zzzz||").merge("|{0:d6} file|{0:d6} files|");
        Catalog.text("zero of an obsolete one", "{0} fajla", d.formText(1, 0, 3));
        Catalog.same("the mark of an obsolete one", 1, d.x.mark(1, 0, true));
        Catalog.same("no mark of an obsolete one", 3, d.x.state(0, 0));
    }

    private static void pairs() {
        Catalog.term("TEMPLATES AND MERGING", "2. Of all pairs of a new message without an origin and an unused one "
                + "of the pool that has at least one form in some locale, and which are similar,");
        Catalog c = new Catalog().merge("|quit||");
        origins(c, 0);
        results(c, 0, 1, 0, 2, 0);
        Catalog none = new Catalog();
        none.x.untranslate(0, 0);
        none.merge("|quit||");
        origins(none, NONE);
        results(none, 0, 0, 1, 2, 0);
        // One form in any locale is enough.
        Catalog other = new Catalog();
        other.x.untranslate(0, 0);
        other.x.addLocale(NONE);
        other.x.addLocale(NONE);
        other.form(3, 0, 5, "fin").merge("|quit||");
        origins(other, 0);
        Catalog.same("marked in locale 3", 2, other.x.state(3, 0));
        Catalog zero = new Catalog().rules(1, "zero:n=0").merge("|abcdef|abcdef|").form(1, 0, 0, "x");
        zero.merge("|abcdeF|abcdef|");
        origins(zero, 0);
        // Just what is not used.
        Catalog used = new Catalog().merge("|quit||\n|Quit||\n|quiT||");
        origins(used, NONE, 0, NONE);
        // Just what is similar: 200 * 1 is at most 13 * 16, but not 12 * 16.
        for (int percent = 12; percent <= 13; percent++) {
            Catalog similar = new Catalog();
            similar.x.setThreshold(percent);
            similar.merge("|quit||");
            origins(similar, percent == 13 ? 0 : NONE);
        }
    }

    private static void poolOfOne() {
        Catalog c = new Catalog();
        for (int m = 0; m < 3; m++) {
            c.x.untranslate(0, m);
        }
        c.x.untranslate(1, 1);
        c.merge("|Save {0:s9}||");
        Catalog.same("none is obsolete", 0, c.x.obsolete());
        c.merge("|save {0:s9}||");
        origins(c, 0);
        results(c, 0, 1, 0, 0, 0);
        Catalog.text("its form", "{0} sichern", c.formText(0, 0, 5));
        Catalog.same("still none", 0, c.x.obsolete());
        c.merge("|other||");
        origins(c, NONE);
        Catalog.same("one", 1, c.x.obsolete());
    }

    private static void leastCost() {
        Catalog.term("TEMPLATES AND MERGING", "the pair with the least cost is taken,");
        Catalog c = new Catalog().merge("|aaaaaaaa||\n|aaaaaaab||");
        c.form(0, 0, 5, "fa").form(0, 1, 5, "fb");
        // aaaaaaaA is 1 from the first old one; aaaaaaac is 3 from each.
        c.merge("|aaaaaaac||\n|aaaaaaaA||");
        origins(c, 1, 0);
        Catalog.text("form of the first", "fb", c.formText(0, 0, 5));
        Catalog.text("form of the second", "fa", c.formText(0, 1, 5));
        c.x.undo();
        // aaaaaaaB is 1 from the second old one, the pair before it costs 3.
        c.merge("|aaaaaaaB||");
        origins(c, 1);
    }

    private static void equalCosts() {
        Catalog.term("TEMPLATES AND MERGING", "of several the one with the first new message, "
                + "and of these the first one of the pool.");
        Catalog c = new Catalog().merge("|aaaaaaaa||\n|aaaaaaab||\n|aaaaaaac||");
        c.form(0, 0, 5, "fa").form(0, 1, 5, "fb").form(0, 2, 5, "fc");
        c.merge("|aaaaaaax||\n|aaaaaaay||");
        origins(c, 0, 1);
        results(c, 0, 2, 0, 1, 0);
        c.x.undo();
        c.x.undo();
        // Without fc, the pool is aaaaaaaa, aaaaaaab, and one without forms.
        c.merge("|aaaaaaax||\n|aaaaaaay||\n|aaaaaaaz||");
        origins(c, 0, 1, NONE);
        // An obsolete one stands behind the messages.
        Catalog e = new Catalog().merge("|aaaaaaaa||").form(0, 0, 5, "old");
        e.x.setThreshold(0);
        e.merge("|aaaaaaab||").form(0, 0, 5, "new");
        e.x.setThreshold(30);
        e.merge("|aaaaaaac||\n|aaaaaaad||");
        origins(e, 0, 5);
        Catalog.text("of the message", "new", e.formText(0, 0, 5));
        Catalog.text("of the obsolete one", "old", e.formText(0, 1, 5));
    }

    private static void suitableForms() {
        Catalog.term("TEMPLATES AND MERGING", "The one of the pool is the origin of the new message then, and is used. "
                + "For each locale, the new message gets each of its forms that belongs to a category "
                + "of the new message in the locale and fits the new message, and is marked if it gets at least one.");
        String old = "|{0} files in the folder|{0} files in the folders|";
        Catalog c = new Catalog().merge(old).form(0, 0, 1, "eine").form(0, 0, 5, "{0} viele").form(1, 0, 1, "{0} f");
        // No plural message: just other, and it fits.
        c.merge("|{0} files in the folder!||");
        origins(c, 0);
        Catalog.text("other", "{0} viele", c.formText(0, 0, 5));
        Catalog.same("just one form", 1, c.x.untranslate(0, 0));
        c.x.undo();
        Catalog.same("marked", 2, c.x.state(0, 0));
        Catalog.same("none in locale 1", 0, c.x.state(1, 0));
        c.x.undo();
        // A plural message: all of them; a mark in each locale with forms.
        c.merge("|{0} files in the folder|{0} files in the Folders|");
        Catalog.text("one", "eine", c.formText(0, 0, 1));
        Catalog.text("one in locale 1", "{0} f", c.formText(1, 0, 1));
        Catalog.same("marked in locale 0", 1, c.x.mark(0, 0, true));
        Catalog.same("marked in locale 1", 1, c.x.mark(1, 0, true));
        c.x.undo();
        c.x.undo();
        c.x.undo();
        // The form without {0} does not fit when its category covers two numbers.
        c.rules(0, "one:n=1,999").merge("|{0} files in the folder|{0} files in the Folders|");
        Catalog.text("one does not fit", "", c.formText(0, 0, 1));
        Catalog.text("other does", "{0} viele", c.formText(0, 0, 5));
        c.x.undo();
        c.x.undo();
        c.rules(0, "one:n=1,1000").merge("|{0} files in the folder|{0} files in the Folders|");
        Catalog.text("one fits", "eine", c.formText(0, 0, 1));
        // The old mark does not matter, nor does the width; a form that does not fit leaves no mark.
        Catalog d = new Catalog().merge("|abcdefghijklmnop{1}||").form(0, 0, 5, "{1}").form(1, 0, 5, "{1}");
        d.x.mark(1, 0, true);
        d.merge("|abcdefghijklmnop{1}!||1");
        Catalog.same("though it is too wide", 2, d.x.state(0, 0));
        Catalog.same("marked as before", 2, d.x.state(1, 0));
        d.x.undo();
        d.merge("|abcdefghijklmnop{2}||");
        origins(d, 0);
        results(d, 0, 1, 0, 0, 0);
        Catalog.same("no form", 0, d.x.state(0, 0));
        withoutMarks();
    }

    /** A message that has an origin, but none of its forms, is as one without an origin. */
    private static void withoutMarks() {
        long[] checksums = new long[2];
        for (int i = 0; i < 2; i++) {
            Catalog c = new Catalog().merge("|abcdefghijklmnop{1}||").form(0, 0, 5, "{1}");
            c.x.mark(0, 0, true);
            for (int k = 0; k < 6; k++) {
                c.x.setThreshold(30);
            }
            if (i == 1) {
                c.x.untranslate(0, 0);
            }
            c.merge("|abcdefghijklmnop{2}||");
            checksums[i] = c.x.checksum();
        }
        Catalog.same("no mark without a form", checksums[1], checksums[0]);
    }

    private static void repeated() {
        Catalog.term("TEMPLATES AND MERGING", "This is repeated until there is no such pair.");
        Catalog c = new Catalog().merge("|aaaaaaaa||\n|bbbbbbbb||\n|cccccccc||\n|dddddddd||");
        for (int m = 0; m < 4; m++) {
            c.form(0, m, 5, "f" + m);
        }
        c.merge("|ddddddddx||\n|ccccccccx||\n|bbbbbbbbx||\n|aaaaaaaax||\n|nothing||");
        origins(c, 3, 2, 1, 0, NONE);
        results(c, 0, 4, 1, 0, 0);
    }

    private static void obsoleteOnes() {
        Catalog.term("TEMPLATES AND MERGING", "3. Old messages that are not used and have at least one form "
                + "in some locale become obsolete: they are appended to the obsolete messages that are not used.");
        Catalog c = new Catalog().merge("|Save {0:s9}||\n|Quit||");
        results(c, 2, 0, 0, 2, 0);
        Catalog.same("two", 2, c.x.obsolete());
        Catalog.text("the first", "{0:d6} file", c.obsoleteText(0));
        Catalog.text("the second", "Open {1:s9}", c.obsoleteText(1));
        // Without a form it is forgotten; a form in one of the other locales is enough.
        Catalog d = new Catalog();
        d.x.untranslate(0, 0);
        d.x.untranslate(0, 1);
        d.merge("|new||");
        results(d, 0, 0, 1, 2, 0);
        Catalog.same("three", 3, d.x.obsolete());
        String[] due = {"Save {0:s9}", "{0:d6} file", "Open {1:s9}"};
        for (int k = 0; k < 3; k++) {
            Catalog.text("obsolete " + k, due[k], d.obsoleteText(k));
        }
        d.merge("|Quit||");
        origins(d, NONE);
        results(d, 0, 0, 1, 0, 0);
        // A form for zero is a form, too.
        Catalog e = new Catalog().rules(0, "zero:n=0").merge("|a|b|").form(0, 0, 0, "x").merge("|new||");
        results(e, 0, 0, 1, 1, 0);
    }

    private static void sixteen() {
        Catalog.term("TEMPLATES AND MERGING",
                "Then, as long as there are more than 16 obsolete messages, the first one is dropped.");
        // Four are obsolete already.
        int[][] due = {{11, 15, 0}, {12, 16, 0}, {13, 16, 1}, {14, 16, 2}, {16, 16, 4}, {24, 16, 12}};
        for (int[] each : due) {
            Catalog c = withForms(each[0]).merge("|zzzzzz||");
            Catalog.same("obsolete of " + each[0], each[1], c.x.obsolete());
            results(c, 0, 0, 1, each[0], each[2]);
            String last = "" + (char) ('a' + each[0] - 1);
            Catalog.text("the last one of " + each[0], last, c.obsoleteText(each[1] - 1));
            String[] four = {"Save {0:s9}", "Quit", "{0:d6} file", "Open {1:s9}"};
            int dropped = each[2];
            String first = dropped < 4 ? four[dropped] : "" + (char) ('a' + dropped - 4);
            Catalog.text("the first one of " + each[0], first, c.obsoleteText(0));
            c.due("none behind", Catalog.BOUNDS, () -> c.x.obsoleteCharacter(each[1], 0));
        }
        // One that is used leaves room; those that are dropped are no origin any more.
        Catalog d = withForms(12).merge("|zzzzzz||").form(0, 0, 5, "z").merge("|Quit||");
        results(d, 1, 0, 0, 1, 0);
        Catalog.same("16", 16, d.x.obsolete());
        d.merge("|yyyyyy||");
        results(d, 0, 0, 1, 1, 1);
        Catalog.text("Save is dropped", "{0:d6} file", d.obsoleteText(0));
        d.merge("|Save {0:s9}||");
        origins(d, NONE);
        Catalog.same("no form", 0, d.x.state(0, 0));
        d.x.undo();
        d.x.undo();
        Catalog.text("undone", "Save {0:s9}", d.obsoleteText(0));
    }

    private static void stagedAreGone() {
        Catalog.term("TEMPLATES AND MERGING", "Staged messages are gone after a merge.");
        Catalog c = new Catalog().stage("|a||");
        c.x.merge();
        c.due("none is staged", 0, () -> c.x.unstage());
        c.due("no second merge", Catalog.STATE, () -> c.x.merge());
        c.pad("|a||");
        c.due("the same can be staged again", 1, () -> c.x.stage());
    }

    private static void merging() {
        Catalog.promise(18, "Merges the staged messages. Undoable.");
        Catalog.promise(18, "Returns the number of messages then.");
        for (int count : new int[] {1, 2, 23, 24}) {
            Catalog c = new Catalog().stage(lines(0, count));
            c.due("merge of " + count, count, () -> c.x.merge());
            c.due("messages", count, () -> c.x.messages());
            c.due("undo", 0, () -> c.x.undo());
            c.due("three again", 3, () -> c.x.messages());
            Catalog.same("as at first", new Catalog().x.checksum(), c.x.checksum());
        }
        // What was merged stays as it was when it is merged again.
        Catalog d = new Catalog().merge("|quit||\n|a||");
        d.merge("|a||\n|quit||");
        origins(d, 1, 0);
        d.x.undo();
        origins(d, 0, NONE);
    }

    private static void results() {
        Catalog.promise(19, "Returns a result of the latest call of merge() that ended normally (0 if there was none).");
        Catalog.promise(19, "0 the number of new messages with an origin by step 1; 1 with an origin by step 2; "
                + "2 without an origin; 3 the number of old messages that became obsolete; "
                + "4 the number of obsolete messages that were dropped at its end");
        Catalog.promise(19, "Returns the number.");
        Catalog c = new Catalog();
        results(c, 0, 0, 0, 0, 0);
        c.due("result 5 of none", Catalog.ARGUMENT, () -> c.x.merged(5));
        c.due("result -1 of none", Catalog.ARGUMENT, () -> c.x.merged(-1));
        c.stage("|new||");
        results(c, 0, 0, 0, 0, 0);
        c.merge("|Quit||\nmenu|open {1:s9}||\n|newer||");
        results(c, 1, 1, 2, 1, 0);
        c.due("not without staged ones", Catalog.STATE, () -> c.x.merge());
        results(c, 1, 1, 2, 1, 0);
        c.x.undo();
        results(c, 1, 1, 2, 1, 0);
        c.due("result 5", Catalog.ARGUMENT, () -> c.x.merged(5));
        c.due("result -1", Catalog.ARGUMENT, () -> c.x.merged(-1));
        c.merge("|zzzzzz||");
        results(c, 0, 0, 1, 3, 0);
    }
}
