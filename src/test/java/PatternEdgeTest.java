/** The edges of patterns: each clause of "the fault of a text that should be a pattern". */
final class PatternEdgeTest {
    private static final int NONE = -1;

    public static void main(String[] args) {
        lengthAndCodes();
        literals();
        indices();
        declarations();
        firstOne();
        index60();
        barsAndLineFeeds();
        behindOpening();
        behindDigit();
        behindColon();
        behindType();
        behindFirstDigit();
        behindSecondDigit();
        behindClosing();
        ends();
        Catalog.end();
    }

    private static void fault(int kind, String text, int due) {
        Catalog.same("fault " + kind + " of \"" + text + "\"", due, new Catalog().fault(kind, text));
    }

    private static void both(String text, int due) {
        fault(0, text, due);
        fault(1, text, due);
    }

    /** The same in the source and in the plural pattern of a template, if no bar or line feed is in it. */
    private static void everywhere(String text, int due) {
        fault(1, text, due);
        fault(3, "|" + text + "||", due == NONE ? NONE : due + 1);
        fault(3, "|x|" + text + "|", due == NONE ? NONE : due + 3);
    }

    private static void lengthAndCodes() {
        Catalog.term("PATTERNS", "A pattern is a text of 1 to 60 characters with codes from 32 to 126, without \"|\".");
        both("", 0);
        both("a", NONE);
        both("a".repeat(59), NONE);
        both("a".repeat(60), NONE);
        both("a".repeat(61), 60);
        for (int code = 32; code <= 126; code++) {
            boolean brace = code == '{' || code == '}';
            both("" + (char) code, code == '|' ? 0 : brace ? 1 : NONE);
        }
        both("\n", 0);
    }

    private static void literals() {
        Catalog.term("PATTERNS", "It consists of literal characters and placeholders.");
        both("a{1}b{2}{2}", NONE);
        Catalog.term("PATTERNS", "\"{{\" stands for the literal \"{\", \"}}\" for the literal \"}\"");
        both("{{", NONE);
        both("}}", NONE);
        both("{{}}}}{{", NONE);
        Catalog c = new Catalog().form(0, 0, 5, "{{}}}}{{");
        Catalog.same("four literals are shown", 4, c.x.show(0, 0, 0));
        Catalog.text("braces", "{}}{", c.shown());
        Catalog.same("four literals are wide", 4, c.x.formWidth(0, 0, 5));
        Catalog.text("as it was entered", "{{}}}}{{", c.formText(0, 0, 5));
        c.merge("|{{0}}||");
        Catalog.same("no placeholder between", NONE, c.x.placeholder(0, 0));
        c.merge("|{{{0}}}||");
        Catalog.same("a placeholder between", 10, c.x.placeholder(0, 0));
        Catalog.term("PATTERNS", "a single \"}\" outside a placeholder is not allowed.");
        both("a}b", 2);
        both("a}}b", NONE);
        both("a}}}b", 4);
        both("a}}}}b", NONE);
        both("a}", 2);
    }

    private static void indices() {
        Catalog.term("PATTERNS", "A placeholder is \"{\", a digit, which is its index, and \"}\".");
        for (int code = 32; code <= 126; code++) {
            boolean digit = code >= '0' && code <= '9';
            both("{" + (char) code + "}", digit ? NONE : code == '{' ? 3 : 1);
        }
        Catalog c = new Catalog().merge("|{0}{1}{2}{3}{4}||\n|{5}{6}{7}{8}{9}||");
        for (int index = 0; index < 10; index++) {
            Catalog.same("first " + index, index < 5 ? 10 : NONE, c.x.placeholder(0, index));
            Catalog.same("second " + index, index < 5 ? NONE : 10, c.x.placeholder(1, index));
        }
    }

    private static void declarations() {
        Catalog.term("PATTERNS", "In a source pattern it can also be \"{\", a digit, \":\", a type, a width, "
                + "and \"}\" (a declaration): the type is d (number) or s (text), "
                + "the width is a number from 1 to 40 without leading zeros.");
        for (int width = 0; width <= 99; width++) {
            boolean right = width >= 1 && width <= 40;
            for (char type : new char[] {'d', 's'}) {
                String text = "{9:" + type + width + "}";
                everywhere(text, right ? NONE : width == 0 ? 4 : 5);
                fault(0, text, 2);
                if (right) {
                    Catalog c = new Catalog().merge("|" + text + "||");
                    Catalog.same(text, (type == 's' ? 100 : 0) + width, c.x.placeholder(0, 9));
                }
            }
        }
        fault(1, "{9:d01}", 4);
        fault(1, "{9:d040}", 4);
    }

    private static void firstOne() {
        Catalog.term("PATTERNS", "The fault of a text that should be a pattern is the index of the first character "
                + "that is not allowed at its place:");
        both("}a{x", 1);
        both("{x}a", 1);
        both("ab|}a", 2);
        both("ab\n|", 2);
        fault(1, "{0:d0}{x}", 4);
        fault(1, "{0}{0:x}{x}", 6);
        both("|" + "a".repeat(80), 0);
        both("a".repeat(59) + "|a", 59);
        both("a".repeat(58) + "{x", 59);
    }

    private static void index60() {
        Catalog.term("PATTERNS", "any character at index 60;");
        // Behind a complete text, and where the character would be the one that has to follow.
        for (String next : new String[] {"a", "{", "}", "|", "\n", "0", " ", "~"}) {
            both("a".repeat(60) + next, 60);
            both("a".repeat(59) + "{" + next, 60);
            both("a".repeat(59) + "}" + next, 60);
            both("a".repeat(58) + "{0" + next, 60);
            fault(1, "a".repeat(57) + "{0:" + next, 60);
            fault(1, "a".repeat(56) + "{0:d" + next, 60);
            fault(1, "a".repeat(55) + "{0:d4" + next, 60);
            fault(1, "a".repeat(54) + "{0:d40" + next, 60);
        }
        both("a".repeat(58) + "{0}", 60);
        both("a".repeat(57) + "{0}", NONE);
        both("a".repeat(59) + "{{", 60);
        both("a".repeat(58) + "{{", NONE);
        both("a".repeat(59) + "}}", 60);
        both("a".repeat(58) + "}}", NONE);
        fault(1, "a".repeat(53) + "{0:d40}", NONE);
        fault(1, "a".repeat(54) + "{0:d40}", 60);
        fault(1, "a".repeat(54) + "{0:d4}", NONE);
        fault(1, "a".repeat(55) + "{0:d4}", 60);
        both("{0}".repeat(20), NONE);
        both("{0}".repeat(21), 60);
        both("{{".repeat(30), NONE);
        both("{{".repeat(31), 60);
        both("a".repeat(240), 60);
    }

    private static void barsAndLineFeeds() {
        Catalog.term("PATTERNS", "\"|\", and a line feed;");
        for (String sign : new String[] {"|", "\n"}) {
            both(sign, 0);
            both("a" + sign, 1);
            both("a" + sign + "a", 1);
            both("{" + sign, 1);
            both("{0" + sign, 2);
            fault(1, "{0:" + sign, 3);
            fault(1, "{0:d" + sign, 4);
            fault(1, "{0:d4" + sign, 5);
            fault(1, "{0:d40" + sign, 6);
            both("{0}" + sign, 3);
            both("{{" + sign, 2);
            both("a}" + sign, 2);
            both("a}}" + sign, 3);
            both("a".repeat(59) + sign, 59);
        }
    }

    /** Just the signs of a text are allowed as the next character, and no other code. */
    private static void allowedNext(int kind, String before, String signs) {
        for (int code = 32; code <= 126; code++) {
            String text = before + (char) code;
            boolean right = signs.indexOf(code) >= 0;
            int got = new Catalog().fault(kind, text);
            boolean wrong = got == before.length();
            Catalog.same("fault " + kind + " of \"" + text + "\" is " + got, right ? 0 : 1, wrong ? 1 : 0);
        }
        fault(kind, before + "\n", before.length());
    }

    private static void behindOpening() {
        Catalog.term("PATTERNS", "behind \"{\" one that is neither \"{\" nor a digit;");
        for (int kind = 0; kind < 2; kind++) {
            allowedNext(kind, "{", "{0123456789");
            allowedNext(kind, "a{{{", "{0123456789");
            allowedNext(kind, "{0}{", "{0123456789");
        }
    }

    private static void behindDigit() {
        Catalog.term("PATTERNS", "behind the digit one that is neither \"}\" nor, in a source pattern, \":\";");
        for (String before : new String[] {"{0", "{9", "a{5", "{{{1"}) {
            allowedNext(0, before, "}");
            allowedNext(1, before, "}:");
        }
    }

    private static void behindColon() {
        Catalog.term("PATTERNS", "behind \":\" one that is neither d nor s;");
        allowedNext(1, "{0:", "ds");
        allowedNext(1, "a{9:", "ds");
    }

    private static void behindType() {
        Catalog.term("PATTERNS", "behind the type one that is not 1 to 9;");
        allowedNext(1, "{0:d", "123456789");
        allowedNext(1, "a{9:s", "123456789");
    }

    private static void behindFirstDigit() {
        Catalog.term("PATTERNS", "behind the first digit of the width one that is neither \"}\" nor a digit "
                + "with which the width is at most 40;");
        for (char first = '1'; first <= '9'; first++) {
            String signs = first < '4' ? "}0123456789" : first == '4' ? "}0" : "}";
            allowedNext(1, "{0:d" + first, signs);
            allowedNext(1, "a{9:s" + first, signs);
        }
    }

    private static void behindSecondDigit() {
        Catalog.term("PATTERNS", "behind the second digit one that is not \"}\";");
        for (String width : new String[] {"10", "19", "39", "40"}) {
            allowedNext(1, "{0:d" + width, "}");
        }
    }

    private static void behindClosing() {
        Catalog.term("PATTERNS", "behind a \"}\" that does not end a placeholder one that is not \"}\".");
        for (int kind = 0; kind < 2; kind++) {
            allowedNext(kind, "}", "}");
            allowedNext(kind, "a}", "}");
            allowedNext(kind, "{0}}", "}");
            allowedNext(kind, "}}}", "}");
        }
        both("{0}a", NONE);
        both("{0}{0}", NONE);
        both("{0}}}", NONE);
        both("{0}}a", 4);
        fault(1, "{0:d4}a", NONE);
        fault(1, "{0:d40}}a", 8);
    }

    private static void ends() {
        Catalog.term("PATTERNS", "It is the length of the text if the text is empty or ends "
                + "where \"}\" or another character has to follow.");
        both("", 0);
        both("{", 1);
        both("{0", 2);
        both("}", 1);
        fault(1, "{0:", 3);
        fault(1, "{0:s", 4);
        fault(1, "{0:s4", 5);
        fault(1, "{0:s40", 6);
        both("abc{", 4);
        both("abc{{{", 6);
        both("abc{0", 5);
        both("abc}", 4);
        both("{0}}", 4);
        both("a".repeat(59) + "{", 60);
        both("a".repeat(59) + "}", 60);
        both("a".repeat(58) + "{1", 60);
        fault(1, "a".repeat(54) + "{0:d40", 60);
        both("{0}", NONE);
        both("}}", NONE);
    }
}
