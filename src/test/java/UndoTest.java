import java.util.ArrayList;
import java.util.List;

/** Promises 47 and 48: undo, checksum. */
final class UndoTest {
    public static void main(String[] args) {
        everyMethod();
        sixStates();
        notSaved();
        notUndoable();
        checksum();
        Catalog.end();
    }

    /** A catalog in which each undoable call can end normally. */
    private static Catalog ready() {
        Catalog c = new Catalog().merge("|Quit||\n|quit||\n|{0:d6} file|{0:d6} files|");
        c.form(0, 1, 5, "ende");
        c.stage("|a||");
        c.pad("one: n = 2");
        return c;
    }

    private static List<Catalog.Call> calls(Catalog c) {
        List<Catalog.Call> calls = new ArrayList<>();
        calls.add(() -> c.x.addLocale(1));
        calls.add(() -> c.x.setParent(1, -1));
        calls.add(() -> c.x.setRules(1));
        calls.add(() -> c.x.setGrouping(1, 0, 1));
        calls.add(() -> c.x.setWidth('x', 0));
        calls.add(() -> c.x.setThreshold(5));
        calls.add(() -> c.x.merge());
        calls.add(() -> c.x.translate(0, 0, 5));
        calls.add(() -> c.x.untranslate(0, 1));
        calls.add(() -> c.x.mark(0, 0, true));
        calls.add(() -> c.x.adopt(0, 0, 0));
        return calls;
    }

    private static void everyMethod() {
        int methods = calls(ready()).size();
        for (int i = 0; i < methods; i++) {
            Catalog c = ready();
            long before = c.x.checksum();
            String problems = c.problemList(0) + c.problemList(1);
            int saved = c.x.undo();
            Catalog again = ready();
            calls(again).get(i).answer();
            Catalog.same("saves, " + i, 1, again.x.checksum() == before ? 0 : 1);
            Catalog.same("one state more, " + i, saved + 1, again.x.undo());
            Catalog.same("restored, " + i, before, again.x.checksum());
            Catalog.text("restored problems, " + i, problems, again.problemList(0) + again.problemList(1));
            Catalog.same("the one before, " + i, saved, again.x.undo());
        }
        // Also if nothing changes.
        Catalog c = new Catalog();
        c.x.setWidth(65, 1);
        c.x.setThreshold(30);
        c.x.setParent(0, -1);
        c.x.setGrouping(0, 46, 3);
        c.x.mark(0, 0, false);
        c.due("all saved", 4, () -> c.x.undo());
    }

    private static void sixStates() {
        Catalog c = new Catalog();
        c.due("none saved", Catalog.STATE, () -> c.x.undo());
        for (int percent = 0; percent <= 7; percent++) {
            c.x.setThreshold(percent);
        }
        for (int left = 5; left >= 0; left--) {
            int due = left;
            c.due("undo", due, () -> c.x.undo());
        }
        c.due("no more", Catalog.STATE, () -> c.x.undo());
        c.due("the oldest of six", 1, () -> c.x.setThreshold(9));
        c.due("saved again", 0, () -> c.x.undo());
        c.due("and restored", 1, () -> c.x.setThreshold(9));
        // What is done after undo is saved on top of what is left.
        Catalog d = new Catalog();
        d.x.setThreshold(1);
        d.x.setThreshold(2);
        d.x.undo();
        d.x.setThreshold(3);
        d.due("one left", 1, () -> d.x.undo());
        d.due("the middle", 1, () -> d.x.setThreshold(4));
    }

    private static void notSaved() {
        Catalog c = new Catalog();
        c.x.setWidth('a', 2);
        c.stage("|a||");
        c.x.setNumber(5, 7);
        c.x.show(0, 0, 0);
        c.x.undo();
        Catalog.same("pad", 4, c.x.clearPad());
        Catalog.same("staged", 1, c.x.unstage());
        Catalog.same("argument", 1, c.x.setNumber(5, 7));
        Catalog.text("shown", "Ende", c.shown());
        Catalog.same("shownLocale", 0, c.x.shownLocale());
        c.merge("|zz||");
        c.x.undo();
        Catalog.same("results", 1, c.x.merged(2));
        Catalog.same("messages", 3, c.x.messages());
        Catalog.same("obsolete", 1, c.x.obsolete());
    }

    private static void notUndoable() {
        Catalog c = new Catalog();
        c.pad("|a||");
        c.x.padFault(3);
        c.x.stage();
        c.x.unstage();
        c.x.setText(0);
        c.x.setNumber(0, 1);
        c.x.show(0, 0, 0);
        c.x.pseudo(0, 0);
        c.x.check(0, 0, 5);
        c.x.problems(0);
        c.x.suggestion(0, 0, 0);
        c.x.checksum();
        Catalog.answer(() -> c.x.translate(0, 0, 4));
        Catalog.answer(() -> c.x.adopt(0, 0, 0));
        Catalog.answer(() -> c.x.setThreshold(99));
        c.due("nothing saved", Catalog.STATE, () -> c.x.undo());
    }

    private static long mix(long h, long... numbers) {
        for (long v : numbers) {
            h = 31 * h + v;
        }
        return h;
    }

    private static long text(long h, String text) {
        h = mix(h, text.length());
        return characters(h, text);
    }

    private static long characters(long h, String text) {
        for (char c : text.toCharArray()) {
            h = mix(h, c);
        }
        return h;
    }

    private static void checksum() {
        Catalog c = new Catalog();
        Catalog.same("a new object", -8173276993191672226L, c.x.checksum());
        c.rules(0, "two: n = 2; one: n = 1").form(0, 1, 2, "{0} zwei");
        c.x.mark(0, 1, true);
        c.x.addLocale(1);
        c.x.setWidth('a', 2);
        c.x.setThreshold(44);
        c.x.setThreshold(45);
        long h = mix(18393, 3, -1, 46, 3, 2, 1, 5, 0, 32, 3, 1, 3, 5, 1, 0, 3, 5, 45, 3);
        h = text(text(text(h, ""), "Quit"), "");
        h = mix(characters(mix(h, 8, 3, 0), "Ende"), -2, 0, 0, -2, 0, 0, -2);
        h = mix(text(text(text(h, ""), "{0:d6} file"), "{0:d6} files"), 16, 2, 1);
        h = mix(characters(h, "{0} zwei"), -2);
        h = mix(characters(h, "{0} Datei"), -2);
        h = mix(characters(h, "{0} Dateien"), -2, 1, 0);
        h = mix(characters(h, "{0} fajl"), -2);
        h = mix(characters(h, "{0} fajla"), -2, -2, 0, 0, -2);
        h = mix(text(text(text(h, "menu"), "Open {1:s9}"), ""), -1, 3, 0);
        h = mix(characters(h, "{1} laden"), -2, 0, 0, -2, 0, 0, -2);
        h = mix(text(text(text(mix(h, 1), ""), "Save {0:s9}"), ""), -1, 3, 0);
        h = mix(characters(h, "{0} sichern"), -2, 0, 0, -2, 0, 0, -2);
        for (int code = 32; code <= 126; code++) {
            h = mix(h, code == 'a' ? 2 : 1);
        }
        Catalog.same("by hand", mix(h, 6), c.x.checksum());
    }
}
