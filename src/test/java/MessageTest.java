/** Promises 20 to 28 but for origin and the obsolete ones: messages and their cost. */
final class MessageTest {
    private static final int NONE = -1;

    public static void main(String[] args) {
        parts();
        placeholders();
        costs();
        Catalog.end();
    }

    private static void parts() {
        Catalog c = new Catalog();
        c.due("messages", 3, () -> c.x.messages());
        c.due("length of the context", 4, () -> c.x.length(2, 0));
        c.due("length of the source", 11, () -> c.x.length(2, 1));
        c.due("no plural", 0, () -> c.x.length(2, 2));
        c.due("no context", 0, () -> c.x.length(0, 0));
        c.due("plural", 12, () -> c.x.length(1, 2));
        c.due("first", 'm', () -> c.x.characterAt(2, 0, 0));
        c.due("last", 'u', () -> c.x.characterAt(2, 0, 3));
        c.due("behind", NONE, () -> c.x.characterAt(2, 0, 4));
        c.due("before", NONE, () -> c.x.characterAt(2, 0, -1));
        c.due("far behind", NONE, () -> c.x.characterAt(2, 1, Integer.MAX_VALUE));
        c.due("of no plural", NONE, () -> c.x.characterAt(2, 2, 0));
        c.due("part 3", Catalog.ARGUMENT, () -> c.x.length(0, 3));
        c.due("part -1", Catalog.ARGUMENT, () -> c.x.length(0, -1));
        c.due("part 3 again", Catalog.ARGUMENT, () -> c.x.characterAt(0, 3, 0));
        for (int message : new int[] {-1, 3, Integer.MIN_VALUE, Integer.MAX_VALUE}) {
            c.due("length " + message, Catalog.BOUNDS, () -> c.x.length(message, 3));
            c.due("characterAt " + message, Catalog.BOUNDS, () -> c.x.characterAt(message, 3, 0));
            c.due("limit " + message, Catalog.BOUNDS, () -> c.x.limit(message));
            c.due("placeholder " + message, Catalog.BOUNDS, () -> c.x.placeholder(message, 0));
            c.due("cost from " + message, Catalog.BOUNDS, () -> c.x.cost(message, 0));
            c.due("cost to " + message, Catalog.BOUNDS, () -> c.x.cost(0, message));
        }
        c.merge("|a||1\n|b||200\n|c||");
        c.due("limit 1", 1, () -> c.x.limit(0));
        c.due("limit 200", 200, () -> c.x.limit(1));
        c.due("no limit", NONE, () -> c.x.limit(2));
    }

    private static void placeholders() {
        Catalog c = new Catalog().merge("|{1} {2:s40} {2}||\n|{0} {1:s3}|{0:d7} {1} {2:d1} {3}|\n|a {0}|{0} b|");
        int[][] due = {
            {NONE, 10, 140, NONE}, {7, 103, 1, 10}, {10, NONE, NONE, NONE}};
        for (int m = 0; m < 3; m++) {
            for (int i = 0; i < 4; i++) {
                int message = m;
                int index = i;
                c.due("placeholder " + m + " " + i, due[m][i], () -> c.x.placeholder(message, index));
            }
        }
        c.due("index -1", NONE, () -> c.x.placeholder(0, -1));
        c.due("index 10", NONE, () -> c.x.placeholder(0, 10));
        c.due("a far index", NONE, () -> c.x.placeholder(0, Integer.MIN_VALUE));
    }

    private static void cost(String one, String other, int due) {
        Catalog c = new Catalog().merge(one + "\n" + other);
        Catalog.same("cost of " + one + " and " + other, due, c.x.cost(0, 1));
        Catalog.same("cost of " + other + " and " + one, due, c.x.cost(1, 0));
        Catalog.same("cost of " + one + " and itself", 0, c.x.cost(0, 0));
    }

    private static void costs() {
        cost("|a||", "|b||", 3);
        cost("|a||", "|A||", 1);
        cost("|a||", "|ab||", 2);
        cost("|z||", "|Z||", 1);
        cost("|zA||", "|Za||", 2);
        cost("|[||", "|{{||", 3);
        cost("|@||", "|`||", 3);
        cost("|1||", "|Q||", 3);
        cost("|abc||", "|bcd||", 4);
        cost("|abc||", "|xyz||", 9);
        cost("|kitten||", "|sitting||", 8);
        cost("|{{||", "|a||", 3);
        cost("|a{{||", "|a||", 2);
        cost("|a||", "|{0}||", 8);
        cost("|a||", "|a{0}||", 6);
        cost("|{0}||", "|{1}||", 4);
        cost("|{0}||", "|{0:d10}||", 0);
        cost("|{0}||", "|{0:d3}||", 0);
        cost("|{0}||", "|{0:s10}||", 4);
        cost("|{0:d3}||", "|{1:s10}||", 4);
        cost("|{0}a||", "|a{0}||", 4);
        cost("|{0}{1}||", "|{1}{0}||", 8);
        cost("|{0}{1}{2}||", "|{1}{2}{0}||", 12);
        // A declaration counts for every occurrence in the message.
        cost("|{1}{1:s5}||", "|{1:s5}{1}||", 0);
        cost("|{1}|{1:s5}|", "|{1:s5}|{1}|", 0);
        cost("|{1}|{1:s5}|", "|{1}|{1}|", 8);
        cost("|a|b|", "|a|c|", 3);
        cost("|a|b|", "|a||", 10);
        cost("|a|b|", "|x|b|", 3);
        cost("|a|b|", "m|A|bb|", 8);
        cost("|a||", "m|a||", 5);
        cost("n|a||", "m|a||", 5);
        cost("n|a|b|", "m|a||", 15);
        String longest = "a".repeat(60);
        cost("|" + longest + "||", "|" + longest.replace('a', 'b') + "||", 180);
        cost("|" + longest + "||", "|{0}{0}{0}{0}{0}{0}{0}{0}{0}{0}{0}{0}{0}{0}{0}{0}{0}{0}{0}{0}||", 240);
        cost("|" + "{{".repeat(30) + "||", "|x||", 61);
        Catalog c = new Catalog();
        Catalog.same("Quit, Open", 25, c.x.cost(0, 2));
        Catalog.same("Quit, file", 27, c.x.cost(0, 1));
    }
}
