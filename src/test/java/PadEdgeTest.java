/** The edges of the pad: its length, its characters, and that reading leaves it as it is. */
final class PadEdgeTest {
    private static final int NONE = -1;

    public static void main(String[] args) {
        length();
        characters();
        emptyAtFirst();
        readingLeavesIt();
        typing();
        clearing();
        whatWasTypedBefore();
        faultKinds();
        faultOrNone();
        Catalog.end();
    }

    private static void length() {
        Catalog.term("THE PAD", "Texts are entered through the pad, a sequence of at most 240 characters");
        Catalog c = new Catalog();
        for (int i = 1; i <= 240; i++) {
            Catalog.same("type " + i, i, c.x.type(i == 240 ? 'z' : 'a'));
        }
        for (int i = 0; i < 3; i++) {
            c.due("the 241st", Catalog.STATE, () -> c.x.type('b'));
        }
        c.due("240", 240, () -> c.x.clearPad());
        // The last one is read, too.
        Catalog d = new Catalog();
        String rules = " ".repeat(229) + "one: n = 12";
        Catalog.same("rules of 240 characters", NONE, d.fault(2, rules));
        Catalog.same("two rules", 1, d.x.setRules(0));
        Catalog.same("with the last one", 1, d.x.category(0, 12));
        Catalog.same("with the last one alone", 5, d.x.category(0, 1));
        Catalog.same("a wrong one at the end", 239, d.fault(2, " ".repeat(229) + "one: n = 1!"));
        Catalog.same("too short", 240, d.fault(2, " ".repeat(230) + "one: n =" + "  "));
    }

    private static void characters() {
        Catalog.term("THE PAD", "each with a code from 32 to 126 or 10 (line feed).");
        for (int code = -2; code < 300; code++) {
            Catalog c = new Catalog();
            int typed = code;
            boolean right = code == 10 || code >= 32 && code <= 126;
            c.due("code " + code, right ? 1 : Catalog.ARGUMENT, () -> c.x.type(typed));
            c.due("code " + code + " is there", right ? 1 : 0, () -> c.x.clearPad());
        }
        Catalog c = new Catalog().merge("|{9:s40}||");
        for (int code = 32; code <= 126; code++) {
            c.pad("a" + (char) code + "b").x.setText(9);
            c.x.show(0, 0, 0);
            Catalog.text("code " + code, "a" + (char) code + "b", c.shown());
        }
    }

    private static void emptyAtFirst() {
        Catalog.term("THE PAD", "It is empty at first.");
        Catalog.promise(1, "Creates the catalog that is described under AT FIRST, with an empty pad.");
        Catalog c = new Catalog();
        Catalog.same("no pattern", 0, c.x.padFault(0));
        Catalog.same("no source pattern", 0, c.x.padFault(1));
        Catalog.same("rules", NONE, c.x.padFault(2));
        Catalog.same("no template", 0, c.x.padFault(3));
        Catalog.same("clearPad", 0, c.x.clearPad());
        Catalog.same("the first character", 1, c.x.type('a'));
    }

    private static void readingLeavesIt() {
        Catalog.term("THE PAD", "Methods that read the pad leave it as it is.");
        String[] pads = {"", "x", "{0}", "one: n = 1", "|a||", "|a||\n|b||", "{0", "\n", "a".repeat(41), "a".repeat(240)};
        for (String pad : pads) {
            for (int method = 0; method < 10; method++) {
                Catalog c = new Catalog().pad(pad);
                read(c, method);
                for (int kind = 0; kind < 3; kind++) {
                    int due = new Catalog().fault(kind, pad);
                    Catalog.same("fault " + kind + " of " + pad + " behind " + method, due, c.x.padFault(kind));
                }
                Catalog.same("length of " + pad + " behind " + method, pad.length(), c.x.clearPad());
            }
        }
    }

    private static void read(Catalog c, int method) {
        switch (method) {
            case 0: case 1: case 2: case 3:
                c.x.padFault(method);
                break;
            case 4:
                Catalog.answer(() -> c.x.setRules(1));
                break;
            case 5:
                Catalog.answer(() -> c.x.stage());
                break;
            case 6:
                c.x.check(0, 0, 5);
                break;
            case 7:
                Catalog.answer(() -> c.x.translate(0, 0, 5));
                break;
            case 8:
                Catalog.answer(() -> c.x.translate(0, 1, 5));
                break;
            default:
                Catalog.answer(() -> c.x.setText(0));
                break;
        }
    }

    private static void typing() {
        Catalog.promise(2, "Appends a character to the pad.");
        Catalog.promise(2, "Returns how many characters the pad has then.");
        Catalog.promise(2, "its code");
        Catalog c = new Catalog().merge("|{9:s40}||");
        c.x.clearPad();
        c.due("first", 1, () -> c.x.type('x'));
        c.due("second", 2, () -> c.x.type('y'));
        c.due("third", 3, () -> c.x.type('x'));
        c.x.setText(9);
        c.x.show(0, 0, 0);
        Catalog.text("in this order", "xyx", c.shown());
    }

    private static void clearing() {
        Catalog.promise(3, "Empties the pad.");
        Catalog.promise(3, "Returns how many characters it had.");
        Catalog c = new Catalog();
        c.due("none", 0, () -> c.x.clearPad());
        c.x.type('a');
        c.due("one", 1, () -> c.x.clearPad());
        c.due("none again", 0, () -> c.x.clearPad());
        c.pad("{0}{0}{0}");
        c.due("nine", 9, () -> c.x.clearPad());
        c.due("empty as a pattern", 0, () -> c.x.padFault(0));
        c.x.type('b');
        c.due("one that was typed behind it", NONE, () -> c.x.padFault(0));
        c.pad("a".repeat(240));
        c.due("240", 240, () -> c.x.clearPad());
        c.due("there is room again", 1, () -> c.x.type('a'));
    }

    /** Of a text that was typed before, nothing is read behind the end of a shorter one. */
    private static void whatWasTypedBefore() {
        String[] texts = {"a{0:d12}{{}}{9:s40}b", "one: n % 10 != 11..12, 345 and n = 4 or n = 5; two: n = 2",
            "one:n!=1..2", "zero:n=1;one:n=2;two:n=3;few:n=4;many:n=5", "c9|{0:d12}x{{|{0}}}y|123\n|b||\n|c||20",
            "|a|b|\n|a|b|", "   ", "{{{{{{", "}}}}}}", "a".repeat(70)};
        for (String text : texts) {
            for (int kind = 0; kind < 4; kind++) {
                for (int end = 0; end <= text.length(); end++) {
                    Catalog c = new Catalog();
                    c.fault(kind, text);
                    String prefix = text.substring(0, end);
                    Catalog.same(prefix + " as " + kind, new Catalog().fault(kind, prefix), c.fault(kind, prefix));
                }
            }
        }
    }

    private static void faultKinds() {
        Catalog.promise(4, "0 a pattern without declarations; 1 a source pattern "
                + "(conflicting declarations are no fault here); 2 plural rules; 3 a template");
        Catalog.promise(4, "Returns the fault of the pad, read as a certain kind of text.");
        kinds("{0:d6}", 2, NONE, 0, 0);
        kinds("one: n = 1", NONE, NONE, NONE, 3);
        kinds("a|b||", 1, 1, 0, NONE);
        kinds("{0:d6}{0:s7}", 2, NONE, 0, 0);
        kinds("|{0:d6}{0:s7}||", 0, 0, 0, 7);
        kinds("{0}", NONE, NONE, 0, 0);
        kinds("", 0, 0, NONE, 0);
        kinds("a\nb", 1, 1, 0, 1);
    }

    private static void kinds(String text, int... due) {
        Catalog c = new Catalog().pad(text);
        for (int kind = 0; kind < 4; kind++) {
            int each = kind;
            c.due(text + " as " + kind, due[kind], () -> c.x.padFault(each));
        }
    }

    private static void faultOrNone() {
        Catalog.promise(4, "Returns the fault, an index from 0; NONE if there is none.");
        for (int kind = 0; kind < 4; kind++) {
            Catalog.same("at index 0, kind " + kind, 0, new Catalog().fault(kind, "\n|a||"));
        }
        StringBuilder lines = new StringBuilder();
        for (char c = 'a'; c <= 'd'; c++) {
            lines.append('|').append(String.valueOf(c).repeat(50)).append("||\n");
        }
        lines.append('|').append("e".repeat(20)).append("|x");
        Catalog.same("at index 239", 239, new Catalog().fault(3, lines + "\n"));
        Catalog.same("at the end of a full pad", 240, new Catalog().fault(3, lines + "y"));
        Catalog.same("a full pad without a fault", NONE, new Catalog().fault(3, lines.deleteCharAt(238) + "|5"));
    }
}
