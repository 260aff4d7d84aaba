/** A catalog under test: counts the answers that are not due, and makes calls shorter to write. */
final class Catalog {
    /** A call whose answer or exception is looked at. */
    interface Call {
        long answer();
    }

    static final long BOUNDS = 1_000_001;
    static final long ARGUMENT = 1_000_002;
    static final long STATE = 1_000_003;

    private static int wrong = 0;
    private static int looked = 0;
    private static String about = "";

    TranslationCatalog x = new TranslationCatalog();

    /** Tells which sentence of a promise the answers from here on are about; it has to stand there. */
    static void promise(int number, String sentence) {
        quote("Promise " + number, sentence);
    }

    /** Tells which sentence of the terms the answers from here on are about; it has to stand there. */
    static void term(String heading, String sentence) {
        quote(heading, sentence);
    }

    private static void quote(String section, String sentence) {
        about = section + ", \"" + sentence + "\"\n  ";
        String text = Document.sections().getOrDefault(section, "");
        same("the document says it", 1, text.contains(Document.even(sentence)) ? 1 : 0);
    }

    /** Three locales, five messages, and something of all that a call could spoil. */
    static Catalog rich(String pad) {
        Catalog c = new Catalog();
        c.x.addLocale(1);
        c.merge("|Quit||8\n|quit||\n|{0:d6} file|{0:d6} files|16\nmenu|Open {1:s9}||\n|Wait||");
        c.form(0, 1, 5, "ende");
        c.x.mark(0, 3, true);
        c.x.setWidth('m', 2);
        c.x.setThreshold(40);
        c.x.setGrouping(2, ',', 2);
        c.x.setNumber(3, -5);
        c.pad("some text").x.setText(4);
        c.stage("|staged {0}||7\nx|other|others|");
        c.x.show(1, 2, 1);
        return c.pad(pad);
    }

    /** Empties the pad and types a text into it. */
    Catalog pad(String text) {
        x.clearPad();
        for (int i = 0; i < text.length(); i++) {
            x.type(text.charAt(i));
        }
        return this;
    }

    Catalog stage(String template) {
        pad(template);
        x.stage();
        return this;
    }

    Catalog merge(String template) {
        stage(template);
        x.merge();
        return this;
    }

    Catalog form(int locale, int message, int category, String form) {
        pad(form);
        x.translate(locale, message, category);
        return this;
    }

    Catalog rules(int locale, String rules) {
        pad(rules);
        x.setRules(locale);
        return this;
    }

    int fault(int kind, String text) {
        pad(text);
        return x.padFault(kind);
    }

    String shown() {
        StringBuilder text = new StringBuilder();
        for (int i = 0; x.shownCharacter(i) != TranslationCatalog.NONE; i++) {
            text.append((char) x.shownCharacter(i));
        }
        return text.toString();
    }

    String part(int message, int part) {
        StringBuilder text = new StringBuilder();
        for (int i = 0; x.characterAt(message, part, i) != TranslationCatalog.NONE; i++) {
            text.append((char) x.characterAt(message, part, i));
        }
        return text.toString();
    }

    String formText(int locale, int message, int category) {
        StringBuilder text = new StringBuilder();
        for (int i = 0; x.formCharacter(locale, message, category, i) != TranslationCatalog.NONE; i++) {
            text.append((char) x.formCharacter(locale, message, category, i));
        }
        return text.toString();
    }

    String obsoleteText(int k) {
        StringBuilder text = new StringBuilder();
        for (int i = 0; x.obsoleteCharacter(k, i) != TranslationCatalog.NONE; i++) {
            text.append((char) x.obsoleteCharacter(k, i));
        }
        return text.toString();
    }

    /** All problems of a locale: kind/message/category, with spaces between them. */
    String problemList(int locale) {
        StringBuilder text = new StringBuilder();
        for (int i = 0; i < x.problems(locale); i++) {
            text.append(i == 0 ? "" : " ").append(x.problem(locale, i, 0)).append('/')
                    .append(x.problem(locale, i, 1)).append('/').append(x.problem(locale, i, 2));
        }
        return text.toString();
    }

    /** Looks at a call on this catalog; one that throws must change nothing. */
    void due(String what, long due, Call call) {
        String before = everything();
        long got = answer(call);
        same(what, due, got);
        if (got == BOUNDS || got == ARGUMENT || got == STATE) {
            text("unchanged by " + what, before, everything());
        }
    }

    static long answer(Call call) {
        try {
            return call.answer();
        } catch (RuntimeException e) {
            // The class itself, so that what the machine throws is not taken for it.
            if (e.getClass() == IndexOutOfBoundsException.class) {
                return BOUNDS;
            }
            if (e.getClass() == IllegalArgumentException.class) {
                return ARGUMENT;
            }
            if (e.getClass() == IllegalStateException.class) {
                return STATE;
            }
            throw e;
        }
    }

    /** What can be seen of the catalog without changing it. */
    String everything() {
        StringBuilder text = new StringBuilder();
        text.append(x.checksum()).append(' ').append(shown()).append(' ').append(x.shownLocale());
        for (int kind = 0; kind < 4; kind++) {
            text.append(' ').append(x.padFault(kind));
        }
        for (int what = 0; what < 5; what++) {
            text.append(' ').append(x.merged(what));
        }
        for (int message = 0; message < x.messages(); message++) {
            text.append(' ').append(x.origin(message));
        }
        return text.toString();
    }

    static void same(String what, long due, long got) {
        looked++;
        if (due != got) {
            wrong++;
            System.out.println(about + what + ": due is " + due + ", got " + got);
        }
    }

    static void text(String what, String due, String got) {
        looked++;
        if (!due.equals(got)) {
            wrong++;
            System.out.println(about + what + ": due is \"" + due + "\", got \"" + got + "\"");
        }
    }

    /** To be called at the end of each test. */
    static void end() {
        System.out.println(looked + " answers looked at, " + wrong + " wrong");
        if (wrong != 0) {
            System.exit(1);
        }
    }
}
