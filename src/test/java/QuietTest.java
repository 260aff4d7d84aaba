/** Calls that end normally and change nothing, and calls that change just what they are for. */
final class QuietTest {
    /** A call on a catalog. */
    private interface Call {
        void on(Catalog c);
    }

    private static final int[] EDGES = {-1, 0, 1, 5, 239, Integer.MIN_VALUE, Integer.MAX_VALUE};

    public static void main(String[] args) {
        texts();
        queries();
        forms();
        thereAndBack();
        Catalog.end();
    }

    private static void quiet(String what, String pad, Call call) {
        Catalog.text(what, Report.of(() -> Catalog.rich(pad)), Report.of(() -> {
            Catalog c = Catalog.rich(pad);
            call.on(c);
            return c;
        }));
    }

    private static void texts() {
        String[] pads = {"", "x", "{0}", "{0", "one: n = 1", "one: n = 1;", "|a||", "|a||\n|a||", "\n"};
        for (String pad : pads) {
            for (int kind = 0; kind < 4; kind++) {
                int each = kind;
                quiet("padFault " + kind + " of " + pad, pad, c -> c.x.padFault(each));
            }
            quiet("check with " + pad, pad, c -> c.x.check(0, 2, 5));
        }
    }

    private static void queries() {
        quiet("numbers of all", "a", c -> {
            c.x.locales();
            c.x.messages();
            c.x.obsolete();
            c.x.shownLocale();
            c.x.checksum();
        });
        for (int i : EDGES) {
            quiet("with " + i, "a", c -> {
                c.x.categoryAt(1, i);
                c.x.characterAt(0, 1, i);
                c.x.placeholder(2, i);
                c.x.obsoleteCharacter(0, i);
                c.x.formCharacter(0, 2, 5, i);
                c.x.suggestion(0, 1, i);
                c.x.shownCharacter(i);
                c.x.problem(1, i, 0);
            });
        }
        for (int locale = 0; locale < 3; locale++) {
            int each = locale;
            quiet("of locale " + locale, "a", c -> {
                c.x.parent(each);
                c.x.category(each, 7);
                c.x.problems(each);
                for (int category = 0; category < 6; category++) {
                    c.x.covered(each, category);
                }
                for (int state = 0; state < 4; state++) {
                    c.x.total(each, state);
                }
            });
        }
        for (int what = 0; what < 5; what++) {
            int each = what;
            quiet("result " + what, "a", c -> c.x.merged(each));
        }
    }

    private static void forms() {
        for (int message = 0; message < 5; message++) {
            int each = message;
            quiet("of message " + message, "a", c -> {
                c.x.length(each, 0);
                c.x.limit(each);
                c.x.origin(each);
                c.x.cost(each, 0);
                c.x.cost(0, each);
                for (int locale = 0; locale < 3; locale++) {
                    c.x.state(locale, each);
                    c.x.formWidth(locale, each, 5);
                    c.x.suggestion(locale, each, 0);
                }
            });
        }
    }

    /** What a call changes is just what the next ones change back. */
    private static void thereAndBack() {
        quiet("an empty pad", "", c -> c.x.clearPad());
        quiet("a pad that is typed again", "abc", c -> c.pad("abc"));
        quiet("a character that is not there any more", "", c -> {
            c.x.type('a');
            c.x.clearPad();
        });
        quiet("an argument", "some text", c -> {
            c.x.setNumber(4, 9);
            c.x.setText(4);
            c.x.setText(3);
            c.x.setNumber(3, -5);
        });
        quiet("a shown text", "a", c -> {
            c.x.show(0, 0, 0);
            c.x.pseudo(0, 0);
            c.x.show(1, 2, 1);
        });
        quiet("staged messages", "|staged {0}||7\nx|other|others|", c -> {
            c.x.unstage();
            c.x.stage();
        });
    }
}
