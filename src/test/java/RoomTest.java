import com.sun.management.ThreadMXBean;
import java.lang.management.ManagementFactory;

/**
 * What a run of 512 calls makes has to stay within 600,000 objects and 7.3 million fields and
 * elements. An object takes 16 bytes at least and an element one, so a run that takes less than
 * 7.3 million bytes is within both.
 */
final class RoomTest {
    private static final int CALLS = 512;
    private static final long MOST = 7_300_000;
    private static final ThreadMXBean THREADS = (ThreadMXBean) ManagementFactory.getThreadMXBean();

    /** The calls behind those that typed the pad, again and again. */
    private interface Dear {
        void call(TranslationCatalog x, int i);
    }

    public static void main(String[] args) {
        StringBuilder rules = new StringBuilder("one:n=1");
        while (rules.length() + 2 <= 240) {
            rules.append(",2");
        }
        StringBuilder relations = new StringBuilder("one:n=1");
        for (int i = 0; i < 11; i++) {
            relations.append(" or n=1");
        }
        StringBuilder lines = new StringBuilder();
        for (int i = 0; i < 24; i++) {
            lines.append(i == 0 ? "" : "\n").append("|ab").append((char) ('a' + i)).append("|x|");
        }
        run("nothing", "", (x, i) -> x.clearPad());
        run("rules with many ranges", rules.toString(), (x, i) -> x.setRules(i % 2));
        run("rules with many relations", relations.toString(), (x, i) -> x.setRules(i % 2));
        run("covered", rules.toString(), (x, i) -> coverAgain(x, i));
        run("stage", lines.toString(), (x, i) -> stageAgain(x, i));
        run("merge", lines.toString(), (x, i) -> mergeAgain(x, i));
        run("fault of a template", lines.toString(), (x, i) -> x.padFault(3));
        run("translate", "{0}" + "a".repeat(9), (x, i) -> x.translate(0, 1, 5));
        run("a long check", "a".repeat(60), (x, i) -> x.check(0, 0, 5));
        run("problems", "", (x, i) -> x.problem(1, i, 0));
        run("suggestion", "", (x, i) -> x.suggestion(0, 0, 0));
        run("checksum", "", (x, i) -> x.checksum());
        run("show", "", (x, i) -> x.show(0, 1, i));
        run("mark", "", (x, i) -> x.mark(0, 1, true));
        run("setWidth", "", (x, i) -> x.setWidth(65, 2));
        Catalog.end();
    }

    private static void coverAgain(TranslationCatalog x, int i) {
        if (i % 2 == 0) {
            x.setRules(0);
        } else {
            x.covered(0, 5);
        }
    }

    private static void stageAgain(TranslationCatalog x, int i) {
        if (i % 2 == 0) {
            x.stage();
        } else {
            x.unstage();
        }
    }

    private static void mergeAgain(TranslationCatalog x, int i) {
        if (i % 2 == 0) {
            x.stage();
        } else {
            x.merge();
        }
    }

    private static void run(String what, String pad, Dear dear) {
        // Once before, so that loading classes is not counted.
        bytes(pad, dear);
        long bytes = bytes(pad, dear);
        System.out.println(what + ": " + bytes + " bytes");
        Catalog.same(what + " takes too much", 1, bytes < MOST ? 1 : 0);
    }

    private static long bytes(String pad, Dear dear) {
        long before = THREADS.getThreadAllocatedBytes(Thread.currentThread().getId());
        TranslationCatalog x = new TranslationCatalog();
        for (int i = 0; i < pad.length(); i++) {
            x.type(pad.charAt(i));
        }
        for (int i = 0; i < CALLS - pad.length(); i++) {
            dear.call(x, i);
        }
        return THREADS.getThreadAllocatedBytes(Thread.currentThread().getId()) - before;
    }
}
