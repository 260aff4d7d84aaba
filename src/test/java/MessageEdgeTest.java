/** The edges of messages: their texts, placeholders, limits and costs. */
final class MessageEdgeTest {
    private static final int NONE = -1;
    private static final String SIXTY = "abcdefghij".repeat(6);

    public static void main(String[] args) {
        twentyFour();
        partsOfAMessage();
        placeholders();
        declaredAnywhere();
        lengths();
        characters();
        limits();
        placeholderNumbers();
        origins();
        obsoleteOnes();
        comparedPatterns();
        distances();
        letters();
        differentPlaceholders();
        neverReplaced();
        costsOfMessages();
        sizes();
        similarOnes();
        Catalog.end();
    }

    /** So many short lines, each another message. */
    private static String lines(int count) {
        StringBuilder text = new StringBuilder();
        for (int i = 0; i < count; i++) {
            text.append(i == 0 ? "" : "\n").append('|').append((char) ('a' + i)).append("||");
        }
        return text.toString();
    }

    private static void twentyFour() {
        Catalog.term("MESSAGES", "There are at most 24 messages, numbered from 0.");
        Catalog.promise(20, "Returns the number of messages.");
        Catalog.promise(20, "Returns the number.");
        Catalog c = new Catalog();
        c.due("three at first", 3, () -> c.x.messages());
        c.merge(lines(24));
        c.due("24", 24, () -> c.x.messages());
        c.due("the last number", 1, () -> c.x.length(23, 1));
        c.due("the number behind it", Catalog.BOUNDS, () -> c.x.length(24, 1));
        c.due("the first number", 1, () -> c.x.length(0, 1));
        c.due("the number before it", Catalog.BOUNDS, () -> c.x.length(-1, 1));
        Catalog.text("the last message", "x", c.part(23, 1));
        c.stage(lines(24));
        c.pad("|z||");
        c.due("the 25th", Catalog.ARGUMENT, () -> c.x.stage());
        c.x.merge();
        c.due("still 24", 24, () -> c.x.messages());
        c.merge("|z||");
        c.due("one", 1, () -> c.x.messages());
        c.due("no second", Catalog.BOUNDS, () -> c.x.length(1, 1));
    }

    private static void partsOfAMessage() {
        Catalog.term("MESSAGES", "A message has a context (0 to 8 characters a to z and 0 to 9), a source pattern, "
                + "perhaps a plural pattern, which is a source pattern, too, and perhaps a limit (1 to 200).");
        Catalog c = new Catalog().merge("|" + SIXTY + "|" + SIXTY + "|200\nabcdefgh|a||1\naz09|{1:s40}|{1:s40}|");
        String[] due = {"/" + SIXTY + "/" + SIXTY + "/200", "abcdefgh/a//1", "az09/{1:s40}/{1:s40}/-1"};
        for (int m = 0; m < 3; m++) {
            Catalog.text("message " + m, due[m],
                    c.part(m, 0) + "/" + c.part(m, 1) + "/" + c.part(m, 2) + "/" + c.x.limit(m));
        }
        Catalog.same("nine characters", 8, c.fault(3, "abcdefghi|a||"));
        Catalog.same("limit 0", 4, c.fault(3, "|a||0"));
        Catalog.same("limit 201", 6, c.fault(3, "|a||201"));
        Catalog.term("MESSAGES", "A message with a plural pattern is called a plural message.");
        Catalog d = new Catalog().merge("|a|b|\n|c||").pad("x");
        d.due("a category of the plural message", 0, () -> d.x.check(0, 0, 1));
        d.due("no category of the other one", 1, () -> d.x.check(0, 1, 1));
    }

    private static void placeholders() {
        Catalog.term("MESSAGES", "The placeholders of a message are the indices of the placeholders of its last pattern: "
                + "the plural pattern if it has one, otherwise the source.");
        Catalog c = new Catalog().merge("|{0}{9}||\n|{1}|{1}{2}{9}|\n|a|{0}|\n|{5}{5}||\n|a||");
        int[][] due = {{0, 9}, {1, 2, 9}, {0}, {5}, {}};
        for (int m = 0; m < due.length; m++) {
            for (int i = 0; i < 10; i++) {
                boolean found = false;
                for (int index : due[m]) {
                    found |= index == i;
                }
                Catalog.same("message " + m + ", index " + i, found ? 10 : NONE, c.x.placeholder(m, i));
            }
        }
    }

    private static void declared(String line, int index, int due) {
        Catalog.same("index " + index + " of " + line, due, new Catalog().merge(line).x.placeholder(0, index));
    }

    private static void declaredAnywhere() {
        Catalog.term("MESSAGES", "Each has the type and width that it is declared with anywhere in the message, "
                + "or type d and width 10 if it is not declared.");
        declared("|{1}||", 1, 10);
        declared("|{1:d1}||", 1, 1);
        declared("|{1:d40}||", 1, 40);
        declared("|{1:s1}||", 1, 101);
        declared("|{1:s40}||", 1, 140);
        declared("|{1}{1:s7}||", 1, 107);
        declared("|{1:s7}{1}||", 1, 107);
        declared("|{1:s7}{1:s7}||", 1, 107);
        declared("|{1:s7}|{1}|", 1, 107);
        declared("|{1}|{1:s7}|", 1, 107);
        declared("|{1:s7}|{1:s7}|", 1, 107);
        declared("|{1}|{1}{1:d3}|", 1, 3);
        declared("|a|{1:s7}|", 1, 107);
        declared("|{0:s7}||", 0, 107);
        declared("|{9:d12}{2:s34}||", 9, 12);
        declared("|{9:d12}{2:s34}||", 2, 134);
        // Not by another line.
        Catalog c = new Catalog().merge("|{1:s7}{2:d3}||\n|{1}{2}||");
        Catalog.same("of another line", 10, c.x.placeholder(1, 1));
        Catalog.same("of another line, too", 10, c.x.placeholder(1, 2));
        // Braces that are meant are no declaration.
        declared("|{{1:s7}}{1}||", 1, 10);
    }

    private static void lengths() {
        Catalog.promise(21, "Returns the length of a text of a message.");
        Catalog.promise(21, "a message");
        Catalog.promise(21, "0 the context; 1 the source pattern; 2 the plural pattern");
        Catalog.promise(21, "Returns the length; 0 for part 2 if it is no plural message.");
        Catalog c = new Catalog().merge("|" + SIXTY + "||\nabcdefgh|b|" + SIXTY + "|\nz|{{|}}|");
        int[][] due = {{0, 60, 0}, {8, 1, 60}, {1, 2, 2}};
        for (int m = 0; m < 3; m++) {
            for (int p = 0; p < 3; p++) {
                int message = m;
                int part = p;
                c.due("length " + m + " " + p, due[m][p], () -> c.x.length(message, part));
            }
        }
    }

    private static void characters() {
        Catalog.promise(22, "Returns a character of a text of a message.");
        Catalog.promise(22, "a message");
        Catalog.promise(22, "0 the context; 1 the source pattern; 2 the plural pattern");
        Catalog.promise(22, "the index of the character, from 0");
        Catalog.promise(22, "Returns its code; NONE if there is no such character.");
        Catalog c = new Catalog().merge("abcdefg9|" + SIXTY + "|{{{0:d6} ~|\n|x||");
        int[][] due = {{0, 0, 'a'}, {0, 7, '9'}, {0, 8, NONE}, {1, 0, 'a'}, {1, 59, 'j'}, {1, 60, NONE}, {2, 0, '{'},
            {2, 1, '{'}, {2, 5, 'd'}, {2, 8, ' '}, {2, 9, '~'}, {2, 10, NONE}};
        for (int[] each : due) {
            c.due("character " + each[1] + " of " + each[0], each[2], () -> c.x.characterAt(0, each[0], each[1]));
        }
        for (int part = 0; part < 3; part++) {
            int each = part;
            c.due("-1 of " + part, NONE, () -> c.x.characterAt(0, each, -1));
            c.due("the least of " + part, NONE, () -> c.x.characterAt(0, each, Integer.MIN_VALUE));
            c.due("the greatest of " + part, NONE, () -> c.x.characterAt(0, each, Integer.MAX_VALUE));
            c.due("0 of " + part, part == 1 ? 'x' : NONE, () -> c.x.characterAt(1, each, 0));
        }
    }

    private static void limits() {
        Catalog.promise(23, "Returns the limit of a message.");
        Catalog.promise(23, "a message");
        Catalog.promise(23, "Returns the limit; NONE if it has none.");
        Catalog c = new Catalog().merge("|a||1\n|b||200\n|c||\n|d||99\n|e||100");
        int[] due = {1, 200, NONE, 99, 100};
        for (int i = 0; i < due.length; i++) {
            int message = i;
            c.due("limit " + i, due[i], () -> c.x.limit(message));
        }
    }

    private static void placeholderNumbers() {
        Catalog.promise(24, "Returns a placeholder of a message.");
        Catalog.promise(24, "a message");
        Catalog.promise(24, "its index");
        Catalog.promise(24, "Returns 100 * type + width, where the type is 0 for d and 1 for s; "
                + "NONE if it is no placeholder of the message.");
        Catalog c = new Catalog().merge("|{0:d1}{9:s40}{5}||\n|a||");
        int[][] due = {{0, 1}, {9, 140}, {5, 10}, {1, NONE}, {8, NONE}, {-1, NONE}, {10, NONE},
            {Integer.MIN_VALUE, NONE}, {Integer.MAX_VALUE, NONE}};
        for (int[] each : due) {
            c.due("placeholder " + each[0], each[1], () -> c.x.placeholder(0, each[0]));
            c.due("placeholder " + each[0] + " of none", NONE, () -> c.x.placeholder(1, each[0]));
        }
    }

    private static void origins() {
        Catalog.promise(25, "Returns the place of the origin of a message in the pool of the merge "
                + "by which the message came.");
        Catalog.promise(25, "a message");
        Catalog.promise(25, "Returns the place in the pool, from 0; NONE if it has no origin or came without a merge.");
        Catalog c = new Catalog();
        for (int i = 0; i < 3; i++) {
            int message = i;
            c.due("came without a merge", NONE, () -> c.x.origin(message));
        }
        c.merge("|Save {0:s9}||\n|Quit||\n|nothing like it||\nmenu|open {1:s9}||");
        int[] due = {3, 0, NONE, 2};
        for (int i = 0; i < 4; i++) {
            int message = i;
            c.due("origin of " + i, due[i], () -> c.x.origin(message));
        }
        c.form(0, 2, 5, "x");
        c.due("a form does not change it", NONE, () -> c.x.origin(2));
        c.x.mark(0, 1, true);
        c.due("nor does a mark", 0, () -> c.x.origin(1));
    }

    private static void obsoleteOnes() {
        Catalog.promise(27, "Returns the number of obsolete messages.");
        Catalog.promise(27, "Returns the number.");
        Catalog c = new Catalog();
        c.due("one at first", 1, () -> c.x.obsolete());
        c.merge("|a||");
        c.due("four", 4, () -> c.x.obsolete());
        Catalog.promise(28, "Returns a character of the source pattern of an obsolete message.");
        Catalog.promise(28, "the position of the obsolete message, from 0");
        Catalog.promise(28, "the index of the character, from 0");
        Catalog.promise(28, "Returns its code; NONE if there is no such character.");
        String[] due = {"Save {0:s9}", "Quit", "{0:d6} file", "Open {1:s9}"};
        for (int k = 0; k < 4; k++) {
            int position = k;
            for (int i = 0; i < due[k].length(); i++) {
                int index = i;
                c.due(due[k] + " at " + i, due[k].charAt(i), () -> c.x.obsoleteCharacter(position, index));
            }
            for (int wrong : new int[] {-1, due[k].length(), Integer.MIN_VALUE, Integer.MAX_VALUE}) {
                c.due(due[k] + " at " + wrong, NONE, () -> c.x.obsoleteCharacter(position, wrong));
            }
        }
    }

    private static void cost(String one, String other, int due) {
        Catalog c = new Catalog().merge(one + "\n" + other);
        Catalog.same("cost of " + one + " and " + other, due, c.x.cost(0, 1));
        Catalog.same("cost of " + other + " and " + one, due, c.x.cost(1, 0));
        Catalog.same("cost of itself", 0, c.x.cost(0, 0));
        Catalog.same("cost of the other one itself", 0, c.x.cost(1, 1));
    }

    private static void comparedPatterns() {
        Catalog.term("COST",
                "For a comparison, a pattern is the sequence of its literal characters and placeholders.");
        cost("|{{||", "|}}||", 3);
        cost("|a{{||", "|a||", 2);
        cost("|a{{b||", "|a}}b||", 3);
        cost("|{{{{{{||", "|x||", 7);
        cost("|{{0}}||", "|0||", 4);
        cost("|{1:d10}||", "|a{1:d10}||", 2);
        cost("|{{1}}||", "|{1}||", 12);
    }

    private static void distances() {
        Catalog.term("COST", "The distance of two patterns is the least sum of the costs of steps "
                + "that turn one into the other:");
        cost("|kitten||", "|sitting||", 8);
        cost("|abcdef||", "|bcdefa||", 4);
        cost("|abc||", "|xyz||", 9);
        cost("|ab||", "|ba||", 4);
        cost("|abab||", "|baba||", 4);
        cost("|Abc||", "|abC||", 2);
        cost("|" + SIXTY + "||", "|" + SIXTY.toUpperCase() + "||", 60);
        cost("|" + SIXTY + "||", "|x||", 121);
        cost("|" + "x".repeat(60) + "||", "|" + "y".repeat(60) + "||", 180);
        cost("|" + SIXTY + "||", "|" + SIXTY.substring(1) + "k||", 4);
        Catalog.term("COST", "to remove or insert a character costs 2, a placeholder 6;");
        cost("|a||", "|ab||", 2);
        cost("|a||", "|ba||", 2);
        cost("|a||", "|aa||", 2);
        cost("|a||", "|abcd||", 6);
        cost("|a||", "|a{0}||", 6);
        cost("|a||", "|{0}a||", 6);
        cost("|a{0}||", "|a{0}{0}||", 6);
        cost("|a{0}{1}||", "|a{1}||", 6);
        cost("|a||", "|{0}a{1}||", 12);
    }

    private static void letters() {
        Catalog.term("COST", "to replace a character by another one costs 1 if both are the same letter "
                + "in upper and lower case, otherwise 3;");
        for (char c = 'a'; c <= 'z'; c++) {
            char upper = (char) (c - 32);
            cost("|" + c + "||", "|" + upper + "||", 1);
            cost("|" + c + "||", "|" + (char) (upper == 'Z' ? 'A' : upper + 1) + "||", 3);
            cost("|" + upper + "||", "|" + (char) (upper == 'Z' ? 'A' : upper + 1) + "||", 3);
        }
        // Codes that are as far from each other as the two cases of a letter, but are no letters.
        cost("|@||", "|`||", 3);
        cost("|[||", "|{{||", 3);
        cost("|]||", "|}}||", 3);
        cost("|^||", "|~||", 3);
        cost("|!||", "|A||", 3);
        cost("|0||", "|P||", 3);
        cost("|0||", "|p||", 3);
        cost("| ||", "|_||", 3);
        cost("|1||", "|2||", 3);
    }

    private static void differentPlaceholders() {
        Catalog.term("COST", "to replace a placeholder by one with another index or type costs 4 (widths do not matter).");
        cost("|{0}||", "|{1}||", 4);
        cost("|{0}||", "|{9}||", 4);
        cost("|{0:d5}||", "|{0:s5}||", 4);
        cost("|{0:d5}||", "|{1:s5}||", 4);
        cost("|{0}||", "|{0:s10}||", 4);
        cost("|{0:d5}||", "|{0:d6}||", 0);
        cost("|{0:s5}||", "|{0:s40}||", 0);
        cost("|{0}||", "|{0:d1}||", 0);
        cost("|{1}{1:s5}||", "|{1:s5}{1}||", 0);
        cost("|{1}{1:s5}||", "|{1}{1}||", 8);
        cost("|{1}|{1:s5}|", "|{1:s5}|{1}|", 0);
        cost("|{1}|{1:s5}|", "|{1}|{1}|", 8);
        cost("|{0}{1}||", "|{1}{0}||", 8);
        cost("|{0}a||", "|a{0}||", 4);
    }

    private static void neverReplaced() {
        Catalog.term("COST", "A character is never replaced by a placeholder or the other way round.");
        cost("|a||", "|{0}||", 8);
        cost("|abc||", "|{0}{1}{2}||", 24);
        cost("|a{0}||", "|{0}a||", 4);
        cost("|a{0}b||", "|a{0}{0}||", 8);
        cost("|" + "a".repeat(60) + "||", "|" + "{0}".repeat(20) + "||", 240);
    }

    private static void costsOfMessages() {
        Catalog.term("COST", "The cost of two messages is the distance of their source patterns, "
                + "plus the distance of their plural patterns if both are plural messages or 10 if just one is, "
                + "plus 5 if their contexts differ.");
        Catalog.promise(26, "Returns the cost of two messages.");
        Catalog.promise(26, "a message");
        Catalog.promise(26, "a message, possibly the same");
        Catalog.promise(26, "Returns the cost.");
        cost("|a|b|", "|a|c|", 3);
        cost("|a|b|", "|a|bcde|", 6);
        cost("|a|b|", "|A|B|", 2);
        cost("|a|b|", "|a||", 10);
        cost("|a|" + SIXTY + "|", "|a||", 10);
        cost("|a||", "x|a||", 5);
        cost("x|a||", "y|a||", 5);
        cost("x|a||", "xx|a||", 5);
        cost("x|a||", "x|b||", 3);
        cost("x|a|b|", "y|A||", 16);
        cost("|a||1", "|b||200", 3);
        cost("|" + "x".repeat(50) + "|" + "y".repeat(60) + "|", "|" + "v".repeat(50) + "|" + "w".repeat(60) + "|", 330);
        Catalog c = new Catalog();
        c.due("two at first", 25, () -> c.x.cost(0, 2));
        c.due("the same", 0, () -> c.x.cost(2, 2));
    }

    /** The least threshold with which a message with a form is the origin of another one; 61 if none is. */
    private static int leastThreshold(String old, String fresh) {
        for (int percent = 0; percent <= 60; percent++) {
            Catalog c = new Catalog().merge(old).form(0, 0, 5, "x");
            c.x.setThreshold(percent);
            c.merge(fresh);
            if (c.x.origin(0) == 0) {
                return percent;
            }
        }
        return 61;
    }

    private static void sizes() {
        Catalog.term("COST", "The size of a pattern is 2 for each literal character plus 6 for each placeholder.");
        // The cost is 3 each time; 600 / 40 = 15, 600 / 20 = 30.
        Catalog.same("20 characters", 15, leastThreshold("|abcdefghij||", "|abcdefghix||"));
        Catalog.same("10 characters", 30, leastThreshold("|abcde||", "|abcdx||"));
        Catalog.same("10 braces", 30, leastThreshold("|{{}}{{}}a||", "|{{}}{{}}x||"));
        Catalog.same("12 and 10", 19, leastThreshold("|abcdef||", "|abcde||"));
        Catalog d = new Catalog().merge("|{0}{0}a||").form(0, 0, 5, "{0}");
        d.x.setThreshold(21);
        d.merge("|{0}{0}b||");
        Catalog.same("two placeholders and a character, not yet", NONE, d.x.origin(0));
        d.x.undo();
        d.x.setThreshold(22);
        d.merge("|{0}{0}b||");
        Catalog.same("two placeholders and a character", 0, d.x.origin(0));
    }

    private static void similarOnes() {
        Catalog.term("COST", "Two messages are similar if 200 * cost is at most the threshold * "
                + "(the sum of the sizes of both source patterns).");
        Catalog.same("800 / 20", 40, leastThreshold("|Quit||", "|Quitxx||"));
        Catalog.same("600 / 16", 38, leastThreshold("|Quit||", "|Quix||"));
        Catalog.same("200 / 16", 13, leastThreshold("|Quit||", "|quit||"));
        Catalog.same("1000 / 20", 50, leastThreshold("|aaaaa||", "m|aaaaa||"));
        Catalog.same("2000 / 40", 50, leastThreshold("|aaaaaaaaaa||", "|aaaaaaaaaa|b|"));
        Catalog.same("2000 / 36", 56, leastThreshold("|aaaaaaaaa||", "|aaaaaaaaa|b|"));
        Catalog.same("4000 / 70", 58, leastThreshold("|aaaaaaaaaaaaaaa||", "m|AAAAAaaaaaaaaaabbbbb||"));
        Catalog.same("1200 / 30", 40, leastThreshold("|aaaaaa||", "|aaaaaaxxx||"));
        Catalog.same("400 / 10", 40, leastThreshold("|aa||", "|xaa||"));
        Catalog.same("1200 / 22", 55, leastThreshold("|aaaa||", "|aaaaxxx||"));
        Catalog.same("1200 / 20", 60, leastThreshold("|aaaxx||", "|aaayy||"));
        Catalog.same("1200 / 16, too much", 61, leastThreshold("|aaxx||", "|aayy||"));
        Catalog.same("2000 / 32, too much", 61, leastThreshold("|aaaaaaaa||", "|aaaaaaaa|b|"));
        Catalog c = new Catalog().merge("|{1:d3}x||").form(0, 0, 5, "{1}");
        c.x.setThreshold(0);
        c.merge("|{1:d4}x||");
        Catalog.same("the same but for the width", 0, c.x.origin(0));
    }
}
