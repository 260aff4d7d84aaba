import java.math.BigInteger;
import java.util.ArrayList;
import java.util.List;

/** The edges of undo, of its six saved states, and of the checksum. */
final class UndoEdgeTest {
    /** A call that is made on a catalog. */
    private interface Change {
        void on(Catalog c);
    }

    private static final int NONE = -1;

    private final List<Long> numbers = new ArrayList<>();

    public static void main(String[] args) {
        everyUndoable();
        asBeforeTheCall();
        notUndoable();
        sixStates();
        notSaved();
        restoring();
        stillSaved();
        wrapping();
        newObject();
        eachNumber();
        missingPlural();
        Catalog.end();
    }

    /** A rich catalog with room for one more saved state, in which each undoable call can end normally. */
    private static Catalog roomy() {
        Catalog c = Catalog.rich("two:n=2");
        c.x.undo();
        return c;
    }

    private static List<Change> undoable() {
        List<Change> all = new ArrayList<>();
        all.add(c -> c.x.addLocale(1));
        all.add(c -> c.x.setParent(2, NONE));
        all.add(c -> c.x.setParent(2, 1));
        all.add(c -> c.x.setRules(0));
        all.add(c -> c.x.setRules(1));
        all.add(c -> c.x.setGrouping(1, 0, 1));
        all.add(c -> c.x.setGrouping(1, 32, 3));
        all.add(c -> c.x.setWidth('~', 0));
        all.add(c -> c.x.setWidth('~', 1));
        all.add(c -> c.x.setThreshold(60));
        all.add(c -> c.x.setThreshold(40));
        all.add(c -> c.x.translate(0, 4, 5));
        all.add(c -> c.x.translate(0, 0, 5));
        all.add(c -> c.x.untranslate(1, 2));
        all.add(c -> c.x.mark(0, 0, true));
        all.add(c -> c.x.mark(0, 0, false));
        all.add(c -> c.x.mark(0, 3, false));
        all.add(c -> c.x.adopt(0, 1, 0));
        return all;
    }

    private static void everyUndoable() {
        Catalog.term("UNDO", "Every method that is marked \"undoable\" saves the locales, messages, obsolete messages, "
                + "forms, marks, character widths and the threshold,");
        String before = Report.of(UndoEdgeTest::roomy);
        List<Change> all = undoable();
        for (int i = 0; i < all.size(); i++) {
            Change change = all.get(i);
            Catalog c = roomy();
            change.on(c);
            Catalog.same("six are saved, change " + i, 5, c.x.undo());
            Catalog.text("undone, change " + i, before, Report.of(() -> {
                Catalog d = roomy();
                change.on(d);
                d.x.undo();
                return d;
            }));
        }
        // A merge takes the staged messages and leaves its results; all else comes back.
        Catalog c = roomy();
        long checksum = c.x.checksum();
        String problems = c.problemList(0) + c.problemList(1) + c.problemList(2);
        c.x.merge();
        Catalog.same("six are saved, merge", 5, c.x.undo());
        Catalog.same("undone, merge", checksum, c.x.checksum());
        Catalog.text("undone problems, merge", problems, c.problemList(0) + c.problemList(1) + c.problemList(2));
        for (int m = 0; m < 5; m++) {
            Catalog.same("undone origin of " + m, roomy().x.origin(m), c.x.origin(m));
        }
    }

    private static void asBeforeTheCall() {
        Catalog.term("UNDO", "as they were before the call, when it ends normally.");
        List<Change> all = undoable();
        for (int i = 0; i < all.size(); i++) {
            Catalog c = roomy();
            long first = c.x.checksum();
            all.get(i).on(c);
            long second = c.x.checksum();
            Change next = all.get((i + 5) % all.size());
            Catalog d = roomy();
            d.x.undo();
            all.get(i).on(d);
            long later = d.x.checksum();
            next.on(d);
            d.x.undo();
            Catalog.same("the state between two changes, " + i, later, d.x.checksum());
            Catalog.same("a change or one more saved state, " + i, 1, first != second ? 1 : 0);
        }
        // One that throws saves nothing.
        Catalog c = roomy();
        long before = c.x.checksum();
        Catalog.answer(() -> c.x.addLocale(7));
        Catalog.answer(() -> c.x.setParent(0, 0));
        Catalog.answer(() -> c.x.setRules(3));
        Catalog.answer(() -> c.x.setGrouping(0, 1, 1));
        Catalog.answer(() -> c.x.setWidth(31, 1));
        Catalog.answer(() -> c.x.setThreshold(61));
        Catalog.answer(() -> c.x.translate(0, 0, 4));
        Catalog.answer(() -> c.x.untranslate(2, 0));
        Catalog.answer(() -> c.x.mark(2, 0, true));
        Catalog.answer(() -> c.x.adopt(0, 1, 1));
        Catalog.same("nothing is saved", before, c.x.checksum());
        Catalog.same("five", 4, c.x.undo());
    }

    private static void notUndoable() {
        Catalog c = roomy();
        long before = c.x.checksum();
        c.x.type('x');
        c.x.clearPad();
        c.pad("|new||");
        c.x.padFault(3);
        c.x.stage();
        c.x.unstage();
        c.x.setNumber(0, 1);
        c.x.setText(2);
        c.x.show(0, 0, 0);
        c.x.pseudo(0, 0);
        c.x.check(0, 0, 5);
        c.x.suggestion(0, 1, 0);
        c.x.problems(0);
        c.x.problem(0, 0, 0);
        c.x.checksum();
        Catalog.same("nothing is saved or changed", before, c.x.checksum());
        Catalog.same("five", 4, c.x.undo());
    }

    private static void sixStates() {
        Catalog.term("UNDO", "The latest 6 saved states are kept.");
        for (int changes = 0; changes <= 14; changes++) {
            Catalog c = new Catalog();
            for (int percent = 1; percent <= changes; percent++) {
                c.x.setThreshold(percent);
            }
            int kept = Math.min(6, changes);
            for (int left = kept - 1; left >= 0; left--) {
                int due = left;
                c.due("undo behind " + changes, due, () -> c.x.undo());
            }
            c.due("none is left behind " + changes, Catalog.STATE, () -> c.x.undo());
            int restored = changes <= 6 ? 30 : changes - 6;
            c.due("the oldest of " + changes, restored, () -> c.x.setThreshold(30));
        }
    }

    private static void notSaved() {
        Catalog.term("UNDO", "The pad, the staged messages, the arguments, the shown text and the results of merges "
                + "are not saved.");
        Catalog c = new Catalog();
        c.x.setThreshold(31);
        c.stage("|a||\n|b||");
        c.x.setNumber(1, 77);
        c.pad("text").x.setText(2);
        c.x.show(0, 0, 0);
        c.pad("pad!!");
        c.due("undo", 0, () -> c.x.undo());
        Catalog.text("shown text", "Ende", c.shown());
        c.due("shown from", 0, () -> c.x.shownLocale());
        c.due("pad", 5, () -> c.x.clearPad());
        c.due("staged", 2, () -> c.x.unstage());
        c.due("a number", 1, () -> c.x.setNumber(1, 0));
        c.due("a text", 2, () -> c.x.setNumber(2, 0));
        c.merge("|Quit||\n|new||");
        c.x.undo();
        int[] due = {1, 0, 1, 2, 0};
        for (int what = 0; what < 5; what++) {
            int each = what;
            c.due("result " + what, due[what], () -> c.x.merged(each));
        }
        c.due("the staged ones do not come back", Catalog.STATE, () -> c.x.merge());
    }

    private static void restoring() {
        Catalog.promise(47, "Restores the state that was saved last; it is not saved any more then.");
        Catalog c = new Catalog();
        c.x.setThreshold(1);
        c.x.setThreshold(2);
        c.x.setThreshold(3);
        c.x.undo();
        c.due("2", 2, () -> c.x.setThreshold(4));
        c.x.undo();
        c.x.undo();
        c.due("1, not 2 or 3", 1, () -> c.x.setThreshold(5));
        c.x.undo();
        c.x.undo();
        c.due("30", 30, () -> c.x.setThreshold(6));
        c.x.undo();
        c.due("none is saved", Catalog.STATE, () -> c.x.undo());
        Catalog.same("as at first", new Catalog().x.checksum(), c.x.checksum());
        // Undo itself is not undone: the state that it leaves is lost.
        c.x.setThreshold(7);
        c.x.undo();
        c.due("lost", Catalog.STATE, () -> c.x.undo());
    }

    private static void stillSaved() {
        Catalog.promise(47, "Returns how many states are still saved.");
        Catalog c = new Catalog();
        for (int i = 0; i < 20; i++) {
            c.x.setWidth('a', i % 3);
        }
        for (int left = 5; left >= 3; left--) {
            int due = left;
            c.due("left", due, () -> c.x.undo());
        }
        c.x.setWidth('a', 1);
        c.x.setWidth('a', 2);
        for (int left = 4; left >= 0; left--) {
            int due = left;
            c.due("left again", due, () -> c.x.undo());
        }
        c.due("none", Catalog.STATE, () -> c.x.undo());
    }

    // ---- the checksum, from the numbers that the document tells

    private UndoEdgeTest put(long... more) {
        for (long number : more) {
            numbers.add(number);
        }
        return this;
    }

    private UndoEdgeTest characters(String text) {
        text.chars().forEach(c -> put(c));
        return this;
    }

    private UndoEdgeTest text(String text) {
        return put(text.length()).characters(text);
    }

    /** A form with the -2 behind it. */
    private UndoEdgeTest form(String form) {
        return characters(form).put(-2);
    }

    private UndoEdgeTest widths() {
        for (int code = 32; code <= 126; code++) {
            put(1);
        }
        return this;
    }

    /** Without wrapping, then cut to the 64 bits of a long. */
    private long sum() {
        BigInteger h = BigInteger.valueOf(18393);
        for (long number : numbers) {
            h = h.multiply(BigInteger.valueOf(31)).add(BigInteger.valueOf(number));
        }
        return h.longValue();
    }

    private static UndoEdgeTest first() {
        UndoEdgeTest s = new UndoEdgeTest();
        s.put(2, -1, 46, 3, 1, 5, 0, 32, 3, 1, 3, 5, 30, 3);
        s.text("").text("Quit").text("").put(8, 3, 0).form("Ende").put(0, 0).form("");
        s.text("").text("{0:d6} file").text("{0:d6} files").put(16, 3, 0).form("{0} Datei").form("{0} Dateien");
        s.put(1, 0).form("{0} fajl").form("{0} fajla").form("");
        return s.text("menu").text("Open {1:s9}").text("").put(-1, 3, 0).form("{1} laden").put(0, 0).form("");
    }

    private static void wrapping() {
        Catalog.promise(48, "Computes a checksum. It starts with h = 18393, and for each of the following numbers v, "
                + "in order, h becomes 31 * h + v (long arithmetic that wraps):");
        Catalog.promise(48, "Returns the checksum.");
        UndoEdgeTest s = first().put(1).text("").text("Save {0:s9}").text("").put(-1, 3, 0).form("{0} sichern");
        s.put(0, 0).form("").widths().put(0);
        BigInteger h = BigInteger.valueOf(18393);
        int beyond = 0;
        for (long number : s.numbers) {
            h = h.multiply(BigInteger.valueOf(31)).add(BigInteger.valueOf(number));
            beyond += h.bitLength() > 63 ? 1 : 0;
        }
        Catalog.same("it wraps", 1, beyond > 100 ? 1 : 0);
        Catalog.same("wrapped at the end", h.longValue(), new Catalog().x.checksum());
    }

    private static void newObject() {
        Catalog.promise(48, "the number of locales; for each locale its parent, separator, group size, "
                + "and its categories in their order; the threshold; the number of messages;");
        Catalog.promise(48, "the number of obsolete messages; for each of them the same as for a message; "
                + "the widths of the characters 32 to 126; how many states are saved.");
        UndoEdgeTest s = first().put(1).text("").text("Save {0:s9}").text("").put(-1, 3, 0).form("{0} sichern");
        Catalog.same("a new object", s.put(0, 0).form("").widths().put(0).sum(), new Catalog().x.checksum());
        Catalog.same("as a number", -8173276993191672226L, new Catalog().x.checksum());
    }

    private static void eachNumber() {
        // Four locales, a message with all kinds of states, one obsolete message with a limit.
        Catalog c = new Catalog();
        c.x.setThreshold(0);
        c.merge("c9|{1:s40} a|{1}b|200\n|x||").rules(0, "many:n=4;zero:n=0").rules(1, "");
        c.x.addLocale(1);
        c.x.addLocale(NONE);
        c.x.setParent(0, 3);
        c.x.setGrouping(1, 0, 1);
        c.x.setGrouping(2, 126, 4);
        c.form(0, 0, 0, "{1}").form(0, 0, 5, "{1} {{");
        c.x.mark(0, 0, true);
        c.form(1, 0, 5, "m{1}").form(2, 0, 5, "{1}").form(2, 1, 5, "y");
        c.x.mark(2, 1, true);
        c.merge("c9|{1:s40} a|{1}b|");
        c.x.setWidth(32, 2);
        c.x.setWidth(126, 0);
        UndoEdgeTest s = new UndoEdgeTest();
        s.put(4, 3, 46, 3, 4, 0, 5, 0, 0, 1, 5, 1, 126, 4, 5, -1, 0, 3, 5, 0, 1);
        s.text("c9").text("{1:s40} a").text("{1}b").put(-1);
        s.put(1, 1).form("").form("{1}").form("{1} {{").put(3, 0).form("m{1}").put(3, 0).form("{1}").put(0, 0).form("");
        // Quit, file, Open and Save lost nothing but the plural forms; x is obsolete behind them.
        s.put(5).text("").text("Save {0:s9}").text("").put(-1, 3, 0).form("{0} sichern");
        s.put(0, 0).form("").put(0, 0).form("").put(0, 0).form("");
        s.text("").text("Quit").text("").put(8, 3, 0).form("Ende").put(0, 0).form("").put(0, 0).form("").put(0, 0).form("");
        s.text("").text("{0:d6} file").text("{0:d6} files").put(16, 1, 0).form("").form("").form("{0} Dateien");
        s.put(0, 0).form("").put(0, 0).form("").put(0, 0).form("");
        s.text("menu").text("Open {1:s9}").text("").put(-1, 3, 0).form("{1} laden");
        s.put(0, 0).form("").put(0, 0).form("").put(0, 0).form("");
        s.text("").text("x").text("").put(-1, 0, 0).form("").put(0, 0).form("").put(2, 1).form("y").put(0, 0).form("");
        s.put(2);
        for (int code = 33; code < 126; code++) {
            s.put(1);
        }
        Catalog.same("by hand", s.put(0, 6).sum(), c.x.checksum());
        c.x.undo();
        s.numbers.set(s.numbers.size() - 2, 1L);
        s.numbers.set(s.numbers.size() - 1, 5L);
        Catalog.same("behind undo", s.sum(), c.x.checksum());
    }

    private static void missingPlural() {
        Catalog.promise(48, "for each message, for its context, then its source, then its plural pattern, the length "
                + "and then the characters (just 0 for a missing plural pattern), then its limit (NONE without one), "
                + "and for each locale its state, 1 or 0 for the mark, and for each of its categories there, in order, "
                + "the characters of its form, if it has one, and then -2;");
        Catalog c = new Catalog();
        for (int m = 0; m < 3; m++) {
            c.x.untranslate(0, m);
        }
        c.x.untranslate(1, 1);
        c.merge("|Save {0:s9}||").x.untranslate(0, 0);
        c.merge("|a||1\nb|c|d|").form(1, 0, 5, "e").form(1, 1, 3, "f");
        c.x.mark(1, 1, true);
        UndoEdgeTest s = new UndoEdgeTest();
        s.put(2, -1, 46, 3, 1, 5, 0, 32, 3, 1, 3, 5, 30, 2);
        s.put(0, 1, 'a', 0, 1, 0, 0, -2, 3, 0, 'e', -2);
        s.put(1, 'b', 1, 'c', 1, 'd', -1, 0, 0, -2, -2, 1, 1, -2, 'f', -2, -2);
        Catalog.same("no obsolete message", s.put(0).widths().put(6).sum(), c.x.checksum());
    }
}
