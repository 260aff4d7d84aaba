/** Promises 2 to 4: type, clearPad, padFault. */
final class PadTest {
    private static final int NONE = -1;

    public static void main(String[] args) {
        typing();
        patterns();
        sourcePatterns();
        rules();
        templates();
        templateLines();
        afterOthers();
        fullStage();
        Catalog.end();
    }

    private static void typing() {
        Catalog c = new Catalog();
        c.due("type 32", 1, () -> c.x.type(32));
        c.due("type 126", 2, () -> c.x.type(126));
        c.due("type 10", 3, () -> c.x.type(10));
        for (int code : new int[] {-1, 0, 9, 11, 13, 31, 127, 255, Integer.MAX_VALUE, Integer.MIN_VALUE}) {
            c.due("type " + code, Catalog.ARGUMENT, () -> c.x.type(code));
        }
        for (int i = 4; i <= 240; i++) {
            int due = i;
            Catalog.same("type", due, c.x.type('a'));
        }
        c.due("type into a full pad", Catalog.STATE, () -> c.x.type('a'));
        c.due("a wrong character comes first", Catalog.ARGUMENT, () -> c.x.type(127));
        c.due("clearPad", 240, () -> c.x.clearPad());
        c.due("clearPad again", 0, () -> c.x.clearPad());
        c.due("type after it", 1, () -> c.x.type('b'));
        for (int kind : new int[] {-1, 4, Integer.MIN_VALUE, Integer.MAX_VALUE}) {
            c.due("padFault " + kind, Catalog.ARGUMENT, () -> c.x.padFault(kind));
        }
        for (int kind = 0; kind < 4; kind++) {
            c.x.padFault(kind);
        }
        c.due("padFault leaves the pad", 1, () -> c.x.clearPad());
    }

    private static void fault(int kind, String text, int due) {
        Catalog.same("fault " + kind + " of \"" + text + "\"", due, new Catalog().fault(kind, text));
    }

    private static void patterns() {
        for (int kind = 0; kind < 2; kind++) {
            fault(kind, "", 0);
            fault(kind, "a", NONE);
            fault(kind, " ~", NONE);
            fault(kind, "a|", 1);
            fault(kind, "a\n", 1);
            fault(kind, "{", 1);
            fault(kind, "{{", NONE);
            fault(kind, "{{{", 3);
            fault(kind, "{a}", 1);
            fault(kind, "{}", 1);
            fault(kind, "{ 0}", 1);
            fault(kind, "{|", 1);
            fault(kind, "{9", 2);
            fault(kind, "{9}", NONE);
            fault(kind, "{10}", 2);
            fault(kind, "{0 }", 2);
            fault(kind, "}", 1);
            fault(kind, "}}", NONE);
            fault(kind, "}}}", 3);
            fault(kind, "a} ", 2);
            fault(kind, "{0}}", 4);
            fault(kind, "{{0}}", NONE);
            fault(kind, "{{0}", 4);
            fault(kind, "a".repeat(60), NONE);
            fault(kind, "a".repeat(61), 60);
            fault(kind, "a".repeat(60) + "|", 60);
            fault(kind, "a".repeat(100), 60);
            fault(kind, "a".repeat(58) + "{{", NONE);
            fault(kind, "a".repeat(59) + "{", 60);
            fault(kind, "a".repeat(59) + "{{", 60);
            fault(kind, "a".repeat(57) + "{0}", NONE);
            fault(kind, "a".repeat(58) + "{0}", 60);
            fault(kind, "a".repeat(70) + "|", 60);
            fault(kind, "aa|" + "a".repeat(70), 2);
        }
        fault(0, "{0:d6}", 2);
        fault(0, "{0:", 2);
    }

    private static void sourcePatterns() {
        fault(1, "{0:d6}", NONE);
        fault(1, "{0:s1}", NONE);
        fault(1, "{0:", 3);
        fault(1, "{0:}", 3);
        fault(1, "{0:x1}", 3);
        fault(1, "{0:D1}", 3);
        fault(1, "{0:d", 4);
        fault(1, "{0:d}", 4);
        fault(1, "{0:d0}", 4);
        fault(1, "{0:s", 4);
        fault(1, "{0:d4", 5);
        fault(1, "{0:d4a}", 5);
        fault(1, "{0:d39}", NONE);
        fault(1, "{0:d40}", NONE);
        fault(1, "{0:d41}", 5);
        fault(1, "{0:d50}", 5);
        fault(1, "{0:d9}", NONE);
        fault(1, "{0:d99}", 5);
        fault(1, "{0:d10}", NONE);
        fault(1, "{0:d40", 6);
        fault(1, "{0:d400}", 6);
        fault(1, "{0:d6}{0:s7}", NONE);
        fault(1, "a".repeat(54) + "{0:d6}", NONE);
        fault(1, "a".repeat(55) + "{0:d6}", 60);
    }

    private static void rules() {
        fault(2, "", NONE);
        fault(2, "   ", NONE);
        fault(2, "one", 3);
        fault(2, "one  ", 5);
        fault(2, "other: n = 1", 0);
        fault(2, " n = 1", 1);
        fault(2, ";", 0);
        fault(2, "One: n = 1", 0);
        fault(2, "ones: n = 1", 0);
        fault(2, "one n", 4);
        fault(2, "one:", 4);
        fault(2, "one: m = 1", 5);
        fault(2, "one: nn = 1", 5);
        fault(2, "one: 1", 5);
        fault(2, "one: n", 6);
        fault(2, "one: n ;", 7);
        fault(2, "one: n =", 8);
        fault(2, "one: n == 1", 8);
        fault(2, "one: n = 1", NONE);
        fault(2, "one:n=1", NONE);
        fault(2, "  one  :  n  !=  1  ..  2  ,  3  ", NONE);
        fault(2, "one: n ! = 1", 7);
        fault(2, "one: n !", 7);
        fault(2, "one: n % = 1", 9);
        fault(2, "one: n % 0 = 1", 9);
        fault(2, "one: n % 00 = 1", 9);
        fault(2, "one: n % 10", 11);
        fault(2, "one: n % 10 % 10", 12);
        fault(2, "one: n % 9999 = 0", NONE);
        fault(2, "one: n % 10000 = 0", 9);
        fault(2, "one: n = 01", 9);
        fault(2, "one: n = 0", NONE);
        fault(2, "one: n = 9999", NONE);
        fault(2, "one: n = 12345", 9);
        fault(2, "one: n = 3..3", NONE);
        fault(2, "one: n = 3..2", 12);
        fault(2, "one: n = 3 .. 02", 14);
        fault(2, "one: n = 3.4", 10);
        fault(2, "one: n = 3. .4", 10);
        fault(2, "one: n = 3..", 12);
        fault(2, "one: n = 3...4", 12);
        fault(2, "one: n = 1..2..3", 13);
        fault(2, "one: n = 1,", 11);
        fault(2, "one: n = 1,2..5,7", NONE);
        fault(2, "one: n = 1,,2", 11);
        fault(2, "one: n = 1 and", 14);
        fault(2, "one: n = 1 and;", 14);
        fault(2, "one: n = 1and n = 2or n=3", NONE);
        fault(2, "one: n = 1 andn = 2", 11);
        fault(2, "one: n = 1 2", 11);
        fault(2, "one: n = 1 two: n = 2", 11);
        fault(2, "one: n = 1;", 11);
        fault(2, "one: n = 1;  ", 13);
        fault(2, "one: n = 1;;", 11);
        fault(2, "one: n = 1; one: n = 2", 12);
        fault(2, "one: n = 1; two: n = 2; zero: n = 0; many: n = 4; few: n = 3", NONE);
        fault(2, "one: n = 1\n", 10);
        fault(2, "one: n = 1 (", 11);
        String twelve = "one:n=1" + " or n=1".repeat(11);
        fault(2, twelve, NONE);
        fault(2, twelve + " or n=1", 88);
        fault(2, twelve + ";two:n=1", 89);
        fault(2, twelve + " or 5", 88);
    }

    private static void templates() {
        fault(3, "", 0);
        fault(3, "a", 1);
        fault(3, "|", 1);
        fault(3, "||", 1);
        fault(3, "|a", 2);
        fault(3, "|a|", 3);
        fault(3, "|a||", NONE);
        fault(3, "a0z9|a|b|77", NONE);
        fault(3, "abcdefgh|a||", NONE);
        fault(3, "abcdefghi|a||", 8);
        fault(3, "abcdefgh", 8);
        fault(3, "A|a||", 0);
        fault(3, "a b|a||", 1);
        fault(3, "a\n|a||", 1);
        fault(3, "|a\n|a||", 2);
        fault(3, "|a|\n|a||", 3);
        fault(3, "|a|b\n|a||", 4);
        fault(3, "|a||1", NONE);
        fault(3, "|a||0", 4);
        fault(3, "|a||01", 4);
        fault(3, "|a||200", NONE);
        fault(3, "|a||201", 6);
        fault(3, "|a||210", 6);
        fault(3, "|a||300", 6);
        fault(3, "|a||2000", 7);
        fault(3, "|a||99", NONE);
        fault(3, "|a||1x", 5);
        fault(3, "|a|| ", 4);
        fault(3, "|a|||", 4);
        fault(3, "|{||", 2);
        fault(3, "|{0||", 3);
        fault(3, "|a}||", 3);
        fault(3, "|a|}|", 4);
        fault(3, "|a|{0:d|", 7);
        fault(3, "|" + "a".repeat(60) + "||", NONE);
        fault(3, "|" + "a".repeat(61) + "||", 61);
        fault(3, "|a|" + "a".repeat(60) + "|", NONE);
        fault(3, "|a|" + "a".repeat(61) + "|", 63);
        fault(3, "|" + "a".repeat(59) + "{|", 61);
        fault(3, "|" + "a".repeat(60), 61);
    }

    private static void templateLines() {
        // Declarations that differ.
        fault(3, "|{0:d6}{0:d6}||", NONE);
        fault(3, "|{0:d6}{0:d7}||", 7);
        fault(3, "|{1:d6}{1:s6}||", 7);
        fault(3, "|{0:d6}{1:d7}||", NONE);
        fault(3, "|{0:d6}|{0:d6}|", NONE);
        fault(3, "|{0:d6}|{0:d60}|", 13);
        fault(3, "|{0:d6}|{0:d7}|", 8);
        fault(3, "|{0:d6}|{0:s6}|", 8);
        fault(3, "|{0:d6}{0:d7}|}x", 7);
        fault(3, "|{0:d6}{0:d7x", 12);
        fault(3, "|{0:d6}{0:d7", 12);
        fault(3, "A|{0:d6}{0:d7}||", 0);
        fault(3, "|{0:d6}||\n|{0:d7}||", NONE);
        // A placeholder of the source that the plural pattern lacks.
        fault(3, "|{0}|x|", 1);
        fault(3, "|a{0}{{{1}|x{0}|", 7);
        fault(3, "|{{{1}{0}|{0}{1}{2}|", NONE);
        fault(3, "|{0}||", NONE);
        fault(3, "|{0}|x|300", 9);
        // Placeholder 0 as a text.
        fault(3, "|{0:s5}|{0}|", 1);
        fault(3, "|a{0}b{0:s5}|{0}{0:s5}|", 6);
        fault(3, "|{0}|{0:s5}|", 5);
        fault(3, "|x|a{0:s5}|", 4);
        fault(3, "|{1:s5}|{1}|", NONE);
        fault(3, "|{0:s5}||", NONE);
        fault(3, "|{0:s5}{1}|{0}|", 7);
        // The same texts.
        fault(3, "|a||\n|b||", NONE);
        fault(3, "|a||\n|a||", 5);
        fault(3, "|a||1\n|a||2", 6);
        fault(3, "|a||\nx|a||", NONE);
        fault(3, "|a||\n|a|b|", NONE);
        fault(3, "|a|b|\n|a|b|", 6);
        fault(3, "|a|b|\n|a|c|", NONE);
        fault(3, "|{0}||\n|{0:d10}||", NONE);
        fault(3, "|a||\n|b||\n|a||", 10);
        fault(3, "|b||\n|a||\n|a||", 10);
        fault(3, "|bb||\n|a||\n|b||\n|a||", 16);
        // Line by line.
        fault(3, "|a||\n", 5);
        fault(3, "\n|a||", 0);
        fault(3, "|{0}|x|\n}", 1);
        fault(3, "|a||\n|a||\nA", 5);
        fault(3, "|a||\n}", 5);
        Catalog c = new Catalog().stage("m|a|b|7");
        Catalog.same("staged", 5, c.fault(3, "|a||\nm|a|b|"));
        Catalog.same("other context", NONE, c.fault(3, "|a|b|"));
        c.stage("menu|abc|def|");
        Catalog.same("longer texts", 0, c.fault(3, "menu|abc|def|"));
        Catalog.same("another end of the source", NONE, c.fault(3, "menu|abd|def|"));
        Catalog.same("another end of the plural", NONE, c.fault(3, "menu|abc|deg|"));
        Catalog.same("another end of the context", NONE, c.fault(3, "menv|abc|def|"));
        Catalog.same("no plural", NONE, c.fault(3, "menu|abc||"));
        c.x.unstage();
        Catalog.same("no longer staged", NONE, c.fault(3, "|a||\nm|a|b|"));
    }

    /** What was read before has no effect. */
    private static void afterOthers() {
        Catalog c = new Catalog();
        Catalog.same("differing declarations", 7, c.fault(3, "|{0:d6}{0:s7}||"));
        Catalog.same("another template", NONE, c.fault(3, "|{0:d7}||"));
        Catalog.same("a longer text", NONE, c.fault(3, "a|b||12"));
        for (String text : new String[] {"a", "a|", "a|b", "a|b|"}) {
            Catalog.same("just " + text, text.length(), c.fault(3, text));
        }
        Catalog.same("a shorter one", NONE, c.fault(3, "a|b||"));
        Catalog.same("longer rules", NONE, c.fault(2, "one: n = 12..34 and n != 5"));
        Catalog.same("one rule", NONE, c.fault(2, "one: n = 1"));
        for (String text : new String[] {"one", "one:", "one: n", "one: n ", "one: n = 1.."}) {
            Catalog.same("just " + text, text.length(), c.fault(2, text));
        }
        Catalog.same("a single sign", 7, c.fault(2, "one: n !"));
        Catalog.same("part of a name", 0, c.fault(2, "on"));
        Catalog.same("a placeholder", NONE, c.fault(3, "|a{5}||"));
        Catalog.same("no placeholder", NONE, c.fault(3, "|a|b|"));
        Catalog.same("a longer pattern", NONE, c.fault(1, "{0:d12}"));
        for (String text : new String[] {"{", "{0", "{0:", "{0:d", "{0:d1", "{0:d12"}) {
            Catalog.same("just " + text, text.length(), c.fault(1, text));
        }
    }

    private static void fullStage() {
        StringBuilder lines = new StringBuilder();
        for (int i = 0; i < 24; i++) {
            lines.append(i == 0 ? "" : "\n").append('|').append((char) ('a' + i)).append("||");
        }
        fault(3, lines.toString(), NONE);
        fault(3, lines + "\n|z||", 120);
        fault(3, lines + "\n|{0}|z|", 121);
        fault(3, lines + "\n|z", 122);
        Catalog c = new Catalog().stage(lines.toString());
        Catalog.same("one too many", 0, c.fault(3, "|z||"));
        c.due("stage", Catalog.ARGUMENT, () -> c.x.stage());
        Catalog.same("a fault of its characters comes first", 2, c.fault(3, "|}z||"));
        c.x.unstage();
        c.stage("|z||");
        Catalog.same("counting the staged ones", 115, c.fault(3, lines.toString()));
    }
}
