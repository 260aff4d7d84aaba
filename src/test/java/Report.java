import java.util.function.Supplier;

/**
 * All that later calls can bring to light about a catalog. Some of them destroy what others would
 * show, so the catalog is made anew for each part.
 */
final class Report {
    private Report() {
    }

    static String of(Supplier<Catalog> made) {
        return "known: " + known(made.get()) + "\nrules: " + rules(made.get()) + "\nargument: " + argument(made.get())
                + "\npad: " + template(made.get()) + "\nstaged: " + staged(made.get())
                + "\narguments: " + arguments(made.get());
    }

    /** The state, all saved ones, and what was shown and merged. */
    private static String known(Catalog c) {
        StringBuilder text = new StringBuilder(look(c));
        while (Catalog.answer(() -> c.x.undo()) != Catalog.STATE) {
            text.append("\n  before: ").append(look(c));
        }
        return text.toString();
    }

    private static String look(Catalog c) {
        StringBuilder text = new StringBuilder(c.everything());
        for (int locale = 0; locale < c.x.locales(); locale++) {
            text.append(' ').append(c.problemList(locale));
        }
        return text.toString();
    }

    /** The pad, if it can be rules. */
    private static String rules(Catalog c) {
        StringBuilder text = new StringBuilder().append(Catalog.answer(() -> c.x.setRules(0)));
        for (int n = 0; n < 30; n++) {
            text.append(' ').append(c.x.category(0, n));
        }
        return text.append(' ').append(c.x.clearPad()).toString();
    }

    /** The pad, if it can be an argument. */
    private static String argument(Catalog c) {
        long answer = Catalog.answer(() -> c.x.setText(9));
        c.x.unstage();
        withoutWidths(c).merge("|{9:s40}||");
        return answer + " " + Catalog.answer(() -> c.x.show(0, 0, 0)) + " " + c.shown();
    }

    /** The pad, if it can be a template. */
    private static String template(Catalog c) {
        c.x.unstage();
        return Catalog.answer(() -> c.x.stage()) + " " + staged(c);
    }

    private static String staged(Catalog c) {
        StringBuilder text = new StringBuilder().append(Catalog.answer(() -> c.x.merge()));
        for (int message = 0; message < c.x.messages(); message++) {
            for (int part = 0; part < 3; part++) {
                text.append(' ').append(c.part(message, part));
            }
            text.append(' ').append(c.x.limit(message)).append(' ').append(c.x.origin(message));
        }
        return text.append(' ').append(c.x.checksum()).toString();
    }

    private static String arguments(Catalog c) {
        StringBuilder lines = new StringBuilder();
        for (int i = 0; i < 20; i++) {
            lines.append(i == 0 ? "" : "\n").append("|{").append(i / 2).append(i % 2 == 0 ? ":d40}||" : ":s40}||");
        }
        c.x.unstage();
        withoutWidths(c).merge(lines.toString());
        StringBuilder text = new StringBuilder();
        for (int i = 0; i < 20; i++) {
            int message = i;
            boolean suits = Catalog.answer(() -> c.x.show(0, message, 0)) < Catalog.BOUNDS;
            text.append(' ').append(suits ? c.shown() : "-");
        }
        return text.toString();
    }

    /** So no value is too wide. */
    private static Catalog withoutWidths(Catalog c) {
        for (int code = 32; code <= 126; code++) {
            c.x.setWidth(code, 0);
        }
        return c;
    }
}
