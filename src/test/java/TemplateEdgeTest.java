/** The edges of templates: each clause of their fault, staging and unstaging. */
final class TemplateEdgeTest {
    private static final int NONE = -1;
    private static final String SIXTY = "a".repeat(60);

    public static void main(String[] args) {
        linesOfATemplate();
        partsOfALine();
        lineByLine();
        charactersFirst();
        contexts();
        patterns();
        emptyPatterns();
        differingDeclarations();
        limits();
        beforeTheThirdBar();
        lateFaults();
        lackingInPlural();
        textForZero();
        twentyFour();
        sameTexts();
        waiting();
        staging();
        unstaging();
        Catalog.end();
    }

    private static void fault(String text, int due) {
        Catalog.same("fault of \"" + text + "\"", due, new Catalog().fault(3, text));
    }

    private static String lines(int from, int to) {
        StringBuilder text = new StringBuilder();
        for (int i = from; i < to; i++) {
            text.append(i == from ? "" : "\n").append('|').append((char) ('a' + i)).append("||");
        }
        return text.toString();
    }

    private static void linesOfATemplate() {
        Catalog.term("TEMPLATES AND MERGING",
                "A template is a text of one or more lines with a line feed between two lines.");
        fault("|a||", NONE);
        fault("|a||\n|b||", NONE);
        fault("|a||\n|b||\n|c||", NONE);
        fault("", 0);
        fault("\n", 0);
        fault("|a||\n", 5);
        fault("\n|a||", 0);
        fault("|a||\n\n|b||", 5);
        fault("|a||1\n", 6);
        fault("|a||1\n|b||2", NONE);
    }

    private static void partsOfALine() {
        Catalog.term("TEMPLATES AND MERGING", "A line is");
        Catalog.term("TEMPLATES AND MERGING", "context \"|\" source \"|\" plural \"|\" limit");
        Catalog.term("TEMPLATES AND MERGING", "where plural and limit can be empty (no plural pattern, no limit); "
                + "a limit is a number from 1 to 200 without leading zeros.");
        fault("c|s|p|1", NONE);
        fault("c|s|p|", NONE);
        fault("c|s||1", NONE);
        fault("|s||", NONE);
        fault("c|s|p|1|", 7);
        for (int limit = 0; limit <= 2010; limit++) {
            String text = "|s||" + limit;
            fault(text, limit == 0 ? 4 : limit <= 200 ? NONE : limit < 1000 ? 6 : limit / 10 > 200 ? 6 : 7);
        }
        fault("|s||01", 4);
        fault("|s||00", 4);
        fault("|s||0200", 4);
    }

    private static void lineByLine() {
        Catalog.term("TEMPLATES AND MERGING", "The fault of such a text is found line by line.");
        fault("|{0}|x|\nA", 1);
        fault("|x|{0:s5}|\nA", 3);
        fault("|a||\n|a||\nA", 5);
        fault("|a||\nA\n|a||", 5);
        fault("|a||\n|b|c", 9);
        fault("|a||\n|{0}|x|\n|a||", 6);
    }

    private static void charactersFirst() {
        Catalog.term("TEMPLATES AND MERGING", "In a line, first each character is looked at, from left to right: "
                + "the fault is the first one that is not allowed at its place:");
        fault("A|}|{x|0", 0);
        fault("|}|{x|0", 2);
        fault("|a|{x|0", 4);
        fault("|a||0", 4);
        fault("|{0}|x|0", 7);
        fault("|{0:s1}|{0}|201", 14);
        fault("|a||\n|a||0", 9);
    }

    private static void contexts() {
        Catalog.term("TEMPLATES AND MERGING", "in the context one that is not a to z, 0 to 9 or \"|\", "
                + "or a ninth one before \"|\";");
        for (int code = 32; code <= 126; code++) {
            boolean right = code >= 'a' && code <= 'z' || code >= '0' && code <= '9';
            for (int before = 0; before < 8; before++) {
                String text = "x".repeat(before) + (char) code;
                if (code != '|') {
                    fault(text + "|a||", right ? NONE : before);
                }
            }
            fault("abcdefgh" + (char) code, code == '|' ? 9 : 8);
        }
        fault("x\n|a||", 1);
        fault("abcdefgh\n", 8);
        fault("abcdefgh|a||", NONE);
        fault("abcdefghi|a||", 8);
        fault("|a||\nabcdefgh|a||", NONE);
        fault("|a||\nabcdefghi|a||", 13);
    }

    private static void patterns() {
        Catalog.term("TEMPLATES AND MERGING", "in a pattern as told above, where \"|\" ends the pattern "
                + "if the text before it is a complete pattern, and is not allowed otherwise");
        String[] incomplete = {"{", "{0", "{0:", "{0:d", "{0:d4", "{0:d40", "}", "a}", "{0}}", "{{{"};
        for (String text : incomplete) {
            fault("|" + text + "||", 1 + text.length());
            fault("|" + text, 1 + text.length());
            fault("|a|" + text + "|", 3 + text.length());
            fault("|a|" + text, 3 + text.length());
        }
        for (String text : new String[] {"{{", "}}", "{0}", "{0:d4}", "{0:d40}", "~", " ", SIXTY}) {
            fault("|" + text + "||", NONE);
            fault("|" + text + "|", text.length() + 2);
            fault("|a|" + text + "|", NONE);
        }
        // The bar may be the character at index 60, but no other one may.
        fault("|" + SIXTY + "||", NONE);
        fault("|" + SIXTY + "a||", 61);
        fault("|" + SIXTY + "\n||", 61);
        fault("|" + SIXTY + "{", 61);
        fault("|" + SIXTY.substring(1) + "{|", 61);
        fault("|" + SIXTY.substring(1) + "}}||", 61);
        fault("|a|" + SIXTY + "|", NONE);
        fault("|a|" + SIXTY + "a|", 63);
        fault("|a|" + SIXTY.substring(1) + "}|", 63);
        fault("|" + SIXTY + "|" + SIXTY + "|200", NONE);
        fault("|" + SIXTY + "|" + SIXTY + "a|200", 122);
    }

    private static void emptyPatterns() {
        Catalog.term("TEMPLATES AND MERGING",
                "(an empty source included; an empty plural pattern means that there is none);");
        fault("||", 1);
        fault("|||", 1);
        fault("||a|", 1);
        fault("x||a|", 2);
        fault("|a||", NONE);
        Catalog c = new Catalog().merge("|a||\n|a|b|");
        Catalog.same("no plural pattern", 0, c.x.length(0, 2));
        Catalog.same("a plural pattern", 1, c.x.length(1, 2));
    }

    private static void differingDeclarations() {
        Catalog.term("TEMPLATES AND MERGING", "the \"{\" of a declaration that differs from an earlier declaration "
                + "of the same index in this line (as soon as the declaration is complete);");
        fault("|{1:d6}{1:d6}||", NONE);
        fault("|{1:d6}{1:d7}||", 7);
        fault("|{1:d6}{1:s6}||", 7);
        fault("|{1:d6}{1:d60}||", 12);
        fault("|{1:d4}{1:d40}||", 7);
        fault("|{1:d6}{2:d7}||", NONE);
        fault("|{1:d6}{1}||", NONE);
        fault("|{1}{1:d6}{1:d6}{1}||", NONE);
        fault("|{1:d6}{1}{1:s6}{1}||", 10);
        fault("|{1:d6}{2:s7}{1:d6}{2:s8}||", 19);
        fault("|{1:d10}{1:d10}||", NONE);
        fault("|{1}{1:d10}||", NONE);
        fault("|{1:d6}|{1:d6}|", NONE);
        fault("|{1:d6}|{1:s6}|", 8);
        fault("|{1:d6}|{1}a{1:d5}|", 12);
        fault("|{9:s40}|{9:s39}|", 9);
        fault("|{1:d6}||\n|{1:d7}||", NONE);
        fault("|{1:d6}|{1}|\n|{1:s7}|{1}{1:s8}|", 24);
        // Not before it is complete, and then before what stands behind it.
        fault("|{1:d6}{1:d7", 12);
        fault("|{1:d6}{1:d7|", 12);
        fault("|{1:d6}{1:d7x", 12);
        fault("|{1:d6}{1:s", 11);
        fault("|{1:d6}{1:d7}}|", 7);
        fault("|{1:d6}{1:d7}|", 7);
        fault("|{1:d6}{1:d7}\n", 7);
        fault("|" + "a".repeat(48) + "{1:d6}{1:d7}||", 55);
        fault("|" + "a".repeat(49) + "{1:d6}{1:d7}||", 61);
        fault("|{{1:d6}}{{1:d7}}||", NONE);
    }

    private static void limits() {
        Catalog.term("TEMPLATES AND MERGING", "in the limit one that is no digit, a leading 0, "
                + "or the digit by which it becomes greater than 200;");
        for (int code = 32; code <= 126; code++) {
            boolean digit = code >= '0' && code <= '9';
            fault("|a||" + (char) code, digit && code != '0' ? NONE : 4);
            fault("|a||1" + (char) code, digit ? NONE : 5);
            fault("|a||20" + (char) code, code == '0' ? NONE : 6);
        }
        fault("|a||199", NONE);
        fault("|a||200", NONE);
        fault("|a||201", 6);
        fault("|a||210", 6);
        fault("|a||999", 6);
        fault("|a||2000", 7);
        fault("|a||1000", 7);
        fault("|a||200\n|b||201", 14);
    }

    private static void beforeTheThirdBar() {
        Catalog.term("TEMPLATES AND MERGING",
                "a line feed, or the end of the text (its length), before the third \"|\".");
        for (String text : new String[] {"", "x", "x|", "x|a", "x|a|", "x|a|b", "|", "|a", "|a|", "|a|b", "|{0:d7}"}) {
            fault(text, text.length());
            fault(text + "\n", text.length());
            fault(text + "\n|c||", text.length());
            fault("|z||\n" + text, 5 + text.length());
            fault("|z||\n" + text + "\n|c||", 5 + text.length());
        }
        fault("x|a||", NONE);
        fault("x|a|b|", NONE);
    }

    private static void lateFaults() {
        Catalog.term("TEMPLATES AND MERGING", "Then, if there is no such fault in the line, these are looked at:");
        // In their order: (1) before (2), both before (3) and (4).
        fault("|{0:s5}{1}|{0}|", 7);
        fault("|{1}{0:s5}|{0}|", 1);
        fault("|{0:s5}{1}|{0}{1}|", 1);
        Catalog c = new Catalog().stage(lines(0, 24));
        Catalog.same("(1) before (3)", 1, c.fault(3, "|{1}|{0}|"));
        Catalog.same("(2) before (3)", 4, c.fault(3, "|xx|{0:s5}|"));
        Catalog.same("(3)", 0, c.fault(3, "|xx|{0}|"));
    }

    private static void lackingInPlural() {
        Catalog.term("TEMPLATES AND MERGING", "(1) in a line with a plural pattern, the first \"{\" of a placeholder "
                + "in the source whose index does not occur in the plural pattern;");
        fault("|{1}|x|", 1);
        fault("|a{1}|{2}|", 2);
        fault("|a{1}|{1}|", NONE);
        fault("|a{1}{2}{3}|{3}{1}|", 5);
        fault("|a{1}{2}{2}|{1}|", 5);
        fault("|a{1}{2}{3}|{1}|", 5);
        fault("|a{3}{2}{1}|{1}|", 2);
        fault("|{{{1}|x|", 3);
        fault("|{{1}}|x|", NONE);
        fault("|{1}|{{1}}|", 1);
        fault("|{1:d6}|{1}|", NONE);
        fault("|{1:d6}|x|", 1);
        fault("|{1}|{1:d6}|", NONE);
        fault("|{0}{9}|{9}|", 1);
        fault("|{9}{0}|{0}|", 1);
        fault("|x|{1}{2}|", NONE);
        fault("|{1}||", NONE);
        fault("ctx|{1}|x|5", 4);
        fault("|a||\n|b{1}|x|", 7);
    }

    private static void textForZero() {
        Catalog.term("TEMPLATES AND MERGING", "(2) in a line with a plural pattern, the \"{\" of the first declaration "
                + "of placeholder 0 with type s;");
        fault("|{0:s5}|{0}|", 1);
        fault("|a{0}{0:s5}|{0}|", 5);
        fault("|a{0:s5}{0:s5}|{0}{0:s5}|", 2);
        fault("|a{0}|b{0:s5}|", 7);
        fault("|a|b{0:s5}|", 4);
        fault("|a|b{0}{0:s5}{0:s5}|", 7);
        fault("|{0:d5}|{0}|", NONE);
        fault("|{0}|{0}|", NONE);
        fault("|{1:s5}|{1}|", NONE);
        fault("|{0:s5}||", NONE);
        fault("ctx|{0:s5}|{0}|5", 4);
        fault("|a||\n|{0:s5}|{0}|", 6);
        fault("|{0:s5}||\n|a|b|", NONE);
    }

    private static void twentyFour() {
        Catalog.term("TEMPLATES AND MERGING", "(3) the first character of the line, if 24 messages are staged already, "
                + "counting the lines before it;");
        fault(lines(0, 24), NONE);
        fault(lines(0, 25), 120);
        fault(lines(0, 24) + "\n}", 120);
        fault(lines(0, 24) + "\n|{x", 122);
        Catalog c = new Catalog().stage(lines(0, 23));
        Catalog.same("the 24th", NONE, c.fault(3, "|y||"));
        Catalog.same("the 25th", 5, c.fault(3, "|y||\n|z||"));
        c.stage("|y||");
        Catalog.same("the 25th alone", 0, c.fault(3, "|z||"));
        Catalog.same("the 25th with a context", 0, c.fault(3, "ab|z||"));
        c.x.unstage();
        Catalog.same("none is staged", NONE, c.fault(3, "|z||"));
        c.stage("|zz||");
        Catalog.same("one and 23", NONE, c.fault(3, lines(0, 23)));
        Catalog.same("one and 24", 115, c.fault(3, lines(0, 24)));
    }

    private static void sameTexts() {
        Catalog.term("TEMPLATES AND MERGING", "(4) the first character of the line, if a staged message "
                + "or a line before it has the same context, source text and plural text.");
        fault("x|a|b|\nx|a|b|", 7);
        fault("x|a|b|1\nx|a|b|2", 8);
        fault("x|a|b|\ny|a|b|", NONE);
        fault("x|a|b|\n|a|b|", NONE);
        fault("x|a|b|\nxx|a|b|", NONE);
        fault("x|a|b|\nx|A|b|", NONE);
        fault("x|a|b|\nx|aa|b|", NONE);
        fault("x|a|b|\nx|a|B|", NONE);
        fault("x|a|b|\nx|a|bb|", NONE);
        fault("x|a|b|\nx|a||", NONE);
        fault("x|a||\nx|a|b|", NONE);
        fault("|a||\n|b||\n|a||", 10);
        fault("|a||\n|b||\n|b||", 10);
        fault("|{1}||\n|{1:d10}||", NONE);
        fault("|{1:d5}||\n|{1:d6}||", NONE);
        Catalog c = new Catalog().stage("x|a|b|7\n|c||");
        Catalog.same("the first staged one", 0, c.fault(3, "x|a|b|"));
        Catalog.same("the second staged one", 5, c.fault(3, "|d||\n|c||9"));
        Catalog.same("another context", NONE, c.fault(3, "y|a|b|"));
        Catalog.same("another source", NONE, c.fault(3, "x|c|b|"));
        Catalog.same("another plural pattern", NONE, c.fault(3, "x|a|c|"));
        Catalog.same("no plural pattern", NONE, c.fault(3, "x|a||"));
        // The messages of the catalog do not count.
        Catalog.same("a message", NONE, c.fault(3, "|Quit||8"));
        c.x.merge();
        Catalog.same("a message that was staged", NONE, c.fault(3, "x|a|b|"));
    }

    private static void waiting() {
        Catalog.term("TEMPLATES AND MERGING", "Staged messages wait for a merge.");
        Catalog c = new Catalog().stage("|a||");
        c.due("messages stay", 3, () -> c.x.messages());
        Catalog.text("the first one stays", "Quit", c.part(0, 1));
        c.x.setThreshold(5);
        c.x.undo();
        c.rules(0, "").form(0, 0, 5, "x");
        c.due("still staged", 1, () -> c.x.merge());
        Catalog.text("the staged one", "a", c.part(0, 1));
    }

    private static void staging() {
        Catalog.promise(16, "Reads the pad as a template and stages its messages, "
                + "behind those that are staged already.");
        Catalog.promise(16, "Returns how many messages are staged then.");
        Catalog c = new Catalog().pad("|b||1\nx|a|c|");
        c.due("two", 2, () -> c.x.stage());
        c.pad("|a||2");
        c.due("three", 3, () -> c.x.stage());
        c.pad("|A||\n|b|");
        c.due("a fault in its second line", Catalog.ARGUMENT, () -> c.x.stage());
        c.x.merge();
        String[] due = {"/b//1", "x/a/c/-1", "/a//2"};
        for (int m = 0; m < 3; m++) {
            Catalog.text("message " + m, due[m],
                    c.part(m, 0) + "/" + c.part(m, 1) + "/" + c.part(m, 2) + "/" + c.x.limit(m));
        }
        c.due("no fourth", 3, () -> c.x.messages());
        Catalog d = new Catalog().pad(lines(0, 24));
        d.due("24 at once", 24, () -> d.x.stage());
        d.pad("|z||");
        d.due("not 25", Catalog.ARGUMENT, () -> d.x.stage());
        d.x.unstage();
        d.due("one", 1, () -> d.x.stage());
    }

    private static void unstaging() {
        Catalog.promise(17, "Discards the staged messages.");
        Catalog.promise(17, "Returns how many there were.");
        Catalog c = new Catalog();
        c.due("none", 0, () -> c.x.unstage());
        c.stage("|a||\n|b||").stage("|c||");
        c.due("three", 3, () -> c.x.unstage());
        c.due("none again", 0, () -> c.x.unstage());
        c.due("nothing to merge", Catalog.STATE, () -> c.x.merge());
        c.due("it can be staged again", 1, () -> c.x.stage());
        c.stage(lines(0, 2)).stage(lines(3, 24));
        c.due("24", 24, () -> c.x.unstage());
    }
}
