import java.util.List;
import java.util.function.IntPredicate;

/** The edges of plural rules: what may follow what, each clause of their fault, and which numbers they cover. */
final class RuleEdgeTest {
    private static final int NONE = -1;
    private static final String LF = "\n";
    private static final List<String> TOKENS = List.of("zero", "one", "two", "few", "many", "other", "n", "and", "or",
            "x", "not", "7", "0", "07", "00", "9999", "12345", ";", ":", "%", "=", "!=", "..", ",", ".", "!", "A", "N",
            "{", "|", LF, "+", "-", "~", "(", "/");

    public static void main(String[] args) {
        categories();
        grammar();
        names();
        numbers();
        spaces();
        tokens();
        noTokens();
        wrongNumbers();
        zeroBehindPercent();
        lesserSecond();
        secondNames();
        thirteenthRelation();
        tooEarly();
        firstCounts();
        relations();
        negated();
        groups();
        firstRule();
        listOfCategories();
        covering();
        longest();
        Catalog.end();
    }

    private static void fault(String text, int due) {
        Catalog.same("fault of \"" + text + "\"", due, new Catalog().fault(2, text));
    }

    private static void categories() {
        Catalog.term("LOCALES AND PLURAL RULES",
                "Plural categories are 0 zero, 1 one, 2 two, 3 few, 4 many, 5 other.");
        Catalog.term("LOCALES AND PLURAL RULES", "And it has a list of plural rules.");
        Catalog c = new Catalog().rules(0, "zero:n=10;one:n=11;two:n=12;few:n=13;many:n=14");
        for (int category = 0; category < 5; category++) {
            Catalog.same("category " + category, category, c.x.category(0, 10 + category));
        }
        Catalog.same("other", 5, c.x.category(0, 15));
        fault("other:n=1", 0);
    }

    /** Behind a text just some tokens may follow; with some of them the text may end. */
    private static void follows(String before, boolean mayEnd, String allowed, String ending) {
        List<String> mayFollow = List.of(allowed.split(" "));
        List<String> mayBeLast = List.of(ending.split(" "));
        fault(before, mayEnd ? NONE : before.length());
        fault(before + "  ", mayEnd ? NONE : before.length() + 2);
        for (String token : TOKENS) {
            for (String space : new String[] {" ", "   "}) {
                for (String end : new String[] {"", " "}) {
                    String text = before + space + token + end;
                    int place = before.length() + space.length();
                    fault(text, mayBeLast.contains(token) ? NONE : mayFollow.contains(token) ? text.length() : place);
                }
            }
        }
    }

    private static void grammar() {
        Catalog.term("LOCALES AND PLURAL RULES", "The text of plural rules has this grammar:");
        Catalog.term("LOCALES AND PLURAL RULES", "rules = [ rule { \";\" rule } ] rule = name \":\" condition "
                + "condition = group { \"or\" group } group = relation { \"and\" relation } "
                + "relation = \"n\" [ \"%\" number ] ( \"=\" | \"!=\" ) range { \",\" range } "
                + "range = number [ \"..\" number ]");
        Catalog.term("LOCALES AND PLURAL RULES", "The fault of such a text is the index of the first character "
                + "of the first token that is not allowed at its place;");
        follows("", true, "zero one two few many", "-none");
        follows("one", false, ":", "-none");
        follows("one:", false, "n", "-none");
        follows("one: n", false, "% = !=", "-none");
        follows("one: n %", false, "7 9999", "-none");
        follows("one: n % 2", false, "= !=", "-none");
        follows("one: n =", false, "", "0 7 9999");
        follows("one: n !=", false, "", "0 7 9999");
        follows("one: n % 2 !=", false, "", "0 7 9999");
        follows("one: n = 1", true, ".. , ; and or", "-none");
        follows("one: n % 2 = 1", true, ".. , ; and or", "-none");
        follows("one: n = 0..", false, "", "0 7 9999");
        follows("one: n = 1..", false, "", "7 9999");
        follows("one: n = 1..2", true, ", ; and or", "-none");
        follows("one: n = 1,", false, "", "0 7 9999");
        follows("one: n = 1..2,", false, "", "0 7 9999");
        follows("one: n = 1..2, 3", true, ".. , ; and or", "-none");
        follows("one: n = 1 and", false, "n", "-none");
        follows("one: n = 1..2 or", false, "n", "-none");
        follows("one: n = 1;", false, "zero two few many", "-none");
        follows("one: n = 1; few", false, ":", "-none");
        follows("one: n = 1; few: n = 2", true, ".. , ; and or", "-none");
    }

    private static void names() {
        Catalog.term("LOCALES AND PLURAL RULES",
                "A name is one of zero, one, two, few, many; each name is used by at most one rule.");
        for (String name : new String[] {"zero", "one", "two", "few", "many"}) {
            fault(name + ":n=1", NONE);
            fault(name + ":n=1;" + name + ":n=2", name.length() + 5);
            fault(name + "s:n=1", 0);
            fault(name.substring(1) + ":n=1", 0);
            fault(name.substring(0, name.length() - 1) + ":n=1", 0);
            fault(name.toUpperCase() + ":n=1", 0);
        }
        fault("many:n=1;few:n=1;two:n=1;one:n=1;zero:n=1", NONE);
    }

    private static void numbers() {
        Catalog.term("LOCALES AND PLURAL RULES",
                "A number is a sequence of 1 to 4 digits without leading zeros (0 itself is allowed).");
        for (String number : new String[] {"0", "1", "9", "10", "99", "100", "999", "1000", "9999"}) {
            fault("one:n=" + number, NONE);
            fault("one:n=0.." + number, NONE);
            fault("one:n=5," + number, NONE);
            fault("one:n%" + number + "=1", number.equals("0") ? 6 : NONE);
            Catalog c = new Catalog().rules(0, "one:n=" + number);
            Catalog.same(number, 1, c.x.category(0, Integer.parseInt(number)));
        }
    }

    private static void spaces() {
        Catalog.term("LOCALES AND PLURAL RULES", "Spaces may stand before, between and after tokens.");
        fault("one:n%10!=1..2,3and n=4or n=5;two:n=6", NONE);
        fault(" one:n=1", NONE);
        fault("one:n=1 ", NONE);
        fault("  one  :  n  %  10  !=  1  ..  2  ,  3  and  n  =  4  or  n  =  5  ;  two  :  n  =  6  ", NONE);
        fault(" ".repeat(240), NONE);
        fault(" ".repeat(233) + "one:n=1", NONE);
        fault("one:n=1" + " ".repeat(233), NONE);
        // Just spaces, and not inside of tokens.
        fault("one:\nn=1", 4);
        fault("o ne:n=1", 0);
        fault("one:n! =1", 5);
        fault("one:n=1. .2", 7);
        fault("one:n=1 2", 8);
        fault("one:n=1 an d n=2", 8);
    }

    private static void tokens() {
        Catalog.term("LOCALES AND PLURAL RULES", "The tokens are words (sequences of letters a to z, "
                + "as long as possible), numbers (sequences of digits, as long as possible), "
                + "and the signs ; : % = != .. and , (a comma).");
        fault("onen:n=1", 0);
        fault("one:nn=1", 4);
        fault("one:nand=1", 4);
        fault("one:n=1andn=2", 7);
        fault("one:n=1orn=2", 7);
        fault("one:n=1and n=2", NONE);
        fault("one:n=1or n=2", NONE);
        fault("one:n1", 5);
        fault("one:n=12345", 6);
        fault("one:n=1234 5", 11);
        fault("one:n==1", 6);
        fault("one:n!==1", 7);
        fault("one:n=!=1", 6);
        fault("one:n%%2=1", 6);
        fault("one::n=1", 4);
        fault("one:n=1...2", 9);
        fault("one:n=1....2", 9);
        fault("one:n=1;;two:n=2", 8);
        fault("one:n=1,,2", 8);
        // The first and the last letter, the first and the last digit, and the codes beside them.
        fault("a", 0);
        fault("z", 0);
        fault("one:z", 4);
        fault("one:n=0", NONE);
        fault("one:n=9", NONE);
        fault("one:n=1`", 7);
        fault("one`:n=1", 3);
        fault("one{:n=1", 3);
        fault("one:n=1/", 7);
    }

    private static void noTokens() {
        Catalog.term("LOCALES AND PLURAL RULES",
                "of a character that begins no token (a single \".\" or \"!\" included);");
        String[] places = {"", "one", "one:", "one:n", "one:n%", "one:n%2", "one:n=", "one:n=1", "one:n=1..",
            "one:n=1..2", "one:n=1,", "one:n=1 and", "one:n=1;"};
        for (String before : places) {
            for (int code = 33; code <= 126; code++) {
                boolean begins = code >= 'a' && code <= 'z' || code >= '0' && code <= '9' || ";:%=,".indexOf(code) >= 0;
                if (!begins) {
                    fault(before + " " + (char) code, before.length() + 1);
                    fault(before + " " + (char) code + " =", before.length() + 1);
                }
            }
            fault(before + LF, before.length());
        }
        fault("one:n!", 5);
        fault("one:n!1", 5);
        fault("one:n!=1", NONE);
        fault("one:n=1.", 7);
        fault("one:n=1.2", 7);
        fault("one:n=1..2", NONE);
        fault("one:n=1.!=2", 7);
        fault("one:n=1" + " ".repeat(232) + ".", 239);
        fault("one:n" + " ".repeat(234) + "!", 239);
    }

    private static void wrongNumbers() {
        Catalog.term("LOCALES AND PLURAL RULES", "of a number with a leading zero or with more than 4 digits;");
        for (String wrong : new String[] {"00", "01", "000", "0000", "0123", "00000", "10000", "12345", "99999",
            "123456", "4294967297", "18446744073709551617", "1".repeat(200)}) {
            fault("one:n=" + wrong, 6);
            fault("one:n%" + wrong + "=1", 6);
            fault("one:n=0.." + wrong, 9);
            fault("one:n=1," + wrong, 8);
            fault("one:n=2 and n!=" + wrong, 15);
        }
        fault("one:n=9999", NONE);
        fault("one:n%9999=1", NONE);
        fault("one:n=0..9999", NONE);
        fault("one:n=1,9999", NONE);
        fault("one:n=0", NONE);
    }

    private static void zeroBehindPercent() {
        Catalog.term("LOCALES AND PLURAL RULES", "of a number 0 behind \"%\";");
        fault("one:n%0=1", 6);
        fault("one:n % 0 = 1", 8);
        fault("one:n%0", 6);
        fault("one:n%1=0", NONE);
        fault("one:n%1=1", NONE);
        fault("one:n=1 and n%0=1", 14);
    }

    private static void lesserSecond() {
        Catalog.term("LOCALES AND PLURAL RULES", "of the second number of a range if it is less than the first one;");
        fault("one:n=3..2", 9);
        fault("one:n=3..3", NONE);
        fault("one:n=3..4", NONE);
        fault("one:n=1..0", 9);
        fault("one:n=0..0", NONE);
        fault("one:n=10..9", 10);
        fault("one:n=9..10", NONE);
        fault("one:n=9999..9998", 12);
        fault("one:n=9999..9999", NONE);
        fault("one:n=5..6,4..3", 14);
        fault("one:n=5..6,4..4", NONE);
        fault("one:n%10=5..4", 12);
        fault("one:n!= 5 .. 4", 13);
    }

    private static void secondNames() {
        Catalog.term("LOCALES AND PLURAL RULES", "of a name for a second time;");
        fault("one:n=1;one:n=2", 8);
        fault("one:n=1; one", 9);
        fault("one:n=1;two:n=2;one:n=3", 16);
        fault("one:n=1;two:n=2;two:n=3", 16);
        fault("zero:n=1;one:n=2;two:n=3;few:n=4;many:n=5;zero:n=6", 42);
        fault("zero:n=1;one:n=2;two:n=3;few:n=4;many:n=5;many:n=6", 42);
        fault("zero:n=1;one:n=2;two:n=3;few:n=4;many:n=5", NONE);
        fault("zero:n=1;one:n=2;two:n=3;few:n=4;many:n=5;", 42);
        fault("zero:n=1;one:n=2;two:n=3;few:n=4;many:n=5;other:n=6", 42);
    }

    private static void thirteenthRelation() {
        Catalog.term("LOCALES AND PLURAL RULES", "of the \"n\" of the 13th relation of the text.");
        for (String word : new String[] {" and ", " or "}) {
            String twelve = "one:n=1" + (word + "n=1").repeat(11);
            fault(twelve, NONE);
            fault(twelve + word + "n=1", twelve.length() + word.length());
            fault(twelve + word + "n", twelve.length() + word.length());
            fault(twelve + word, twelve.length() + word.length());
            fault(twelve + ";two:n=1", twelve.length() + 5);
            fault(twelve + ";two:", twelve.length() + 5);
        }
        // Of the text, not of a rule or of a group.
        String five = "zero:n=1 or n=2 or n=3;one:n=1 and n=2 and n=3;two:n=1 and n=2 or n=3;few:n=1 or n=2;many:n=1";
        fault(five, NONE);
        fault(five + " or n=2", five.length() + 4);
        String eleven = five.replace("few:n=1 or n=2", "few:n=1");
        fault(eleven + " or n=2", NONE);
        fault(eleven + " or n=2 and n=3", eleven.length() + 12);
        Catalog c = new Catalog().rules(0, "one:n=100" + " or n=1".repeat(10) + " or n=200");
        Catalog.same("the twelfth relation", 1, c.x.category(0, 200));
        // What was read before does not count.
        c.pad("one:n=1" + " or n=1".repeat(11));
        Catalog.same("again", NONE, c.x.padFault(2));
        Catalog.same("and again", NONE, c.x.padFault(2));
    }

    private static void tooEarly() {
        Catalog.term("LOCALES AND PLURAL RULES", "It is the length of the text if the text ends too early.");
        String[] early = {"one", "one:", "one:n", "one:n%", "one:n%2", "one:n%2=", "one:n!=", "one:n=1..", "one:n=1,",
            "one:n=1..2,", "one:n=1 and", "one:n=1 or", "one:n=1;", "one:n=1;two", "one:n=1;two:"};
        for (String text : early) {
            fault(text, text.length());
            fault(text + " ", text.length() + 1);
            fault(text + " ".repeat(240 - text.length()), 240);
            fault(" ".repeat(240 - text.length()) + text, 240);
        }
        fault("", NONE);
        fault("one:n=1", NONE);
    }

    private static void firstCounts() {
        Catalog.term("LOCALES AND PLURAL RULES", "What is first in the text counts.");
        fault("one:n=01;one", 6);
        fault("one:n=1;one:n=01", 8);
        fault("one:n=3..2;one:n=01!", 9);
        fault("one:n%0=01", 6);
        fault("one:n=10000 !", 6);
        fault("one:n=! 10000", 6);
        fault("one:n=1;one:", 8);
        fault("one:n=1" + " or n=1".repeat(11) + " or n=01", 88);
        fault("one:n=01" + " or n=1".repeat(12), 6);
    }

    /** For which numbers a condition holds. */
    private static void holds(String condition, IntPredicate due) {
        Catalog c = new Catalog().rules(0, "many:" + condition);
        int[] large = {1999, 9998, 9999, 10000, 10001, 19999, 99990, 2147483646, Integer.MAX_VALUE};
        for (int n = 0; n < 230; n++) {
            Catalog.same(condition + " for " + n, due.test(n) ? 4 : 5, c.x.category(0, n));
        }
        for (int n : large) {
            Catalog.same(condition + " for " + n, due.test(n) ? 4 : 5, c.x.category(0, n));
        }
    }

    private static void relations() {
        Catalog.term("LOCALES AND PLURAL RULES", "For a number n (0 or more), a relation holds if n, "
                + "or with \"%\" the remainder of n divided by the number, lies in one of the ranges "
                + "(a single number is a range of its own; both ends belong to a range);");
        holds("n=0", n -> n == 0);
        holds("n=7", n -> n == 7);
        holds("n=9999", n -> n == 9999);
        holds("n=0..0", n -> n == 0);
        holds("n=3..3", n -> n == 3);
        holds("n=0..3", n -> n <= 3);
        holds("n=2..4", n -> n >= 2 && n <= 4);
        holds("n=100..9999", n -> n >= 100 && n <= 9999);
        holds("n=1,5..7,9", n -> n == 1 || n >= 5 && n <= 7 || n == 9);
        holds("n=9,5..7,1", n -> n == 1 || n >= 5 && n <= 7 || n == 9);
        holds("n=5..7,6..9", n -> n >= 5 && n <= 9);
        holds("n%10=2..4", n -> n % 10 >= 2 && n % 10 <= 4);
        holds("n%10=0", n -> n % 10 == 0);
        holds("n%10=9", n -> n % 10 == 9);
        holds("n%10=10", n -> false);
        holds("n%10=9..10", n -> n % 10 == 9);
        holds("n%1=0", n -> true);
        holds("n%1=1", n -> false);
        holds("n%2=1", n -> n % 2 == 1);
        holds("n%9999=1", n -> n % 9999 == 1);
        holds("n%9999=0", n -> n % 9999 == 0);
        holds("n%100=11..14,21", n -> n % 100 >= 11 && n % 100 <= 14 || n % 100 == 21);
    }

    private static void negated() {
        Catalog.term("LOCALES AND PLURAL RULES", "with \"!=\" it holds if this is not so.");
        holds("n!=0", n -> n != 0);
        holds("n!=2..4", n -> n < 2 || n > 4);
        holds("n!=1,5..7,9", n -> !(n == 1 || n >= 5 && n <= 7 || n == 9));
        holds("n%10!=2..4,9", n -> !(n % 10 >= 2 && n % 10 <= 4 || n % 10 == 9));
        holds("n%1!=0", n -> false);
        holds("n%1!=1", n -> true);
        holds("n!=0..9999", n -> n > 9999);
    }

    private static void groups() {
        Catalog.term("LOCALES AND PLURAL RULES",
                "A group holds if all its relations hold, a condition if one of its groups holds.");
        holds("n%2=0 and n%3=0", n -> n % 6 == 0);
        holds("n%2=0 and n%3=0 and n%5=0", n -> n % 30 == 0);
        holds("n%2=0 or n%3=0", n -> n % 2 == 0 || n % 3 == 0);
        holds("n%2=0 or n%3=0 or n%5=0", n -> n % 2 == 0 || n % 3 == 0 || n % 5 == 0);
        holds("n%2=0 and n%3=0 or n%5=0", n -> n % 6 == 0 || n % 5 == 0);
        holds("n%5=0 or n%2=0 and n%3=0", n -> n % 6 == 0 || n % 5 == 0);
        holds("n%2=0 and n%3=0 or n%5=0 and n%7=0", n -> n % 6 == 0 || n % 35 == 0);
        holds("n=1 and n=2", n -> false);
        holds("n=1 and n=2 or n=3", n -> n == 3);
        holds("n=3 or n=1 and n=2", n -> n == 3);
    }

    private static void firstRule() {
        Catalog.term("LOCALES AND PLURAL RULES", "The category of n in a locale is that of the first rule, "
                + "in the order of the list, whose condition holds, or other if there is none.");
        Catalog c = new Catalog().rules(0, "few:n=2..4;one:n=1..3;zero:n=0..9");
        int[] due = {0, 1, 3, 3, 3, 0, 0, 0, 0, 0, 5, 5};
        for (int n = 0; n < due.length; n++) {
            Catalog.same("category of " + n, due[n], c.x.category(0, n));
        }
        // A rule ends with its own last group.
        c.rules(0, "few:n=1 and n=2;one:n=1");
        Catalog.same("not with the first rule's", 1, c.x.category(0, 1));
        c.rules(0, "few:n=1 and n!=1;one:n=2 or n=3;two:n=1");
        Catalog.same("the third rule", 2, c.x.category(0, 1));
        c.rules(0, "one:n=1").rules(0, "");
        Catalog.same("no rule", 5, c.x.category(0, 1));
        c.rules(0, "one:n=1;two:n=2;few:n=3").rules(0, "many:n=2");
        int[] later = {5, 5, 4, 5};
        for (int n = 0; n < later.length; n++) {
            Catalog.same("of fewer rules, " + n, later[n], c.x.category(0, n));
        }
    }

    private static void listOfCategories() {
        Catalog.term("LOCALES AND PLURAL RULES",
                "The categories of a locale are those of its rules, in their order, and then other.");
        String[] rules = {"", "two:n=1", "many:n=1;zero:n=2", "many:n=1;zero:n=2;one:n=3;few:n=4;two:n=5"};
        int[][] due = {{5}, {2, 5}, {4, 0, 5}, {4, 0, 1, 3, 2, 5}};
        for (int k = 0; k < rules.length; k++) {
            Catalog c = new Catalog().rules(0, rules[k]);
            for (int i = -1; i < 8; i++) {
                int each = i >= 0 && i < due[k].length ? due[k][i] : NONE;
                Catalog.same(rules[k] + " at " + i, each, c.x.categoryAt(0, i));
            }
        }
    }

    private static void covering() {
        Catalog.term("LOCALES AND PLURAL RULES",
                "A category covers a number if it is the category of this number in the locale.");
        Catalog c = new Catalog().rules(0, "few:n=2..4;one:n=1..6;zero:n=3;two:n=998..1001;many:n=1000..9999");
        int[] due = {0, 3, 2, 3, 0, 992};
        for (int category = 0; category < 6; category++) {
            Catalog.same("covered by " + category, due[category], c.x.covered(0, category));
        }
    }

    private static void longest() {
        // As many ranges as a full pad holds; the last one counts, too.
        StringBuilder text = new StringBuilder("one:n=");
        while (text.length() < 238) {
            text.append(text.length() % 4 == 0 ? "1," : "2,");
        }
        text.append("75");
        Catalog.same("240 characters", 240, text.length());
        Catalog c = new Catalog();
        Catalog.same("no fault", NONE, c.fault(2, text.toString()));
        c.x.setRules(0);
        Catalog.same("the last range", 1, c.x.category(0, 75));
        Catalog.same("the first range", 1, c.x.category(0, 2));
        Catalog.same("no range", 5, c.x.category(0, 7));
        String most = text.substring(0, 238) + "7";
        Catalog.same("117 ranges", 117, most.substring(6).split(",").length);
        c.rules(0, most);
        Catalog.same("the 117th range", 1, c.x.category(0, 7));
        Catalog.same("another number", 5, c.x.category(0, 75));
    }
}
