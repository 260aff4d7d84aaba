import java.util.Arrays;

/**
 * A catalog of translated messages: source messages with placeholders, locales with plural rules
 * and fallback locales, translations that are checked, length limits, and a merge of new templates
 * by exact and fuzzy matching.
 *
 * <p>All that undo brings back hangs on one State, which is never changed: a call builds the next
 * State from the parts of the last one that stay. So a call that throws leaves nothing behind, and
 * saving a state costs one reference.
 */
public final class TranslationCatalog {
    /** Returned where there is no such value. */
    public static final int NONE = -1;

    private static final int LINE_FEED = 10;
    private static final int FIRST_CODE = 32;
    private static final int LAST_CODE = 126;
    private static final int MAX_PAD = 240;
    private static final int MAX_PATTERN = 60;
    private static final int MAX_CONTEXT = 8;
    private static final int MAX_LIMIT = 200;
    private static final int MAX_MESSAGES = 24;
    private static final int MAX_OBSOLETE = 16;
    private static final int MAX_LOCALES = 4;
    private static final int MAX_RELATIONS = 12;
    private static final int MAX_SAVED = 6;
    private static final int MAX_PLACEHOLDER_WIDTH = 40;
    private static final int MAX_THRESHOLD = 60;
    private static final int MAX_ARGUMENT = 40;
    private static final int ARGUMENTS = 10;
    private static final int CATEGORIES = 6;
    private static final int ONE = 1;
    private static final int OTHER = 5;
    private static final int[] ONLY_OTHER = {5};
    private static final int COUNTED_NUMBERS = 1000;

    private static final int MISSING = 0;
    private static final int PARTIAL = 1;
    private static final int MARKED = 2;
    private static final int READY = 3;

    // What check() answers if the pad can't become a form.
    private static final int NO_CATEGORY = 1;
    private static final int NO_PATTERN = 2;
    private static final int UNKNOWN_PLACEHOLDER = 3;
    private static final int LACKING_PLACEHOLDER = 4;
    private static final int TOO_WIDE = 5;

    // A token of a pattern is a character's code, or this number + the index of a placeholder,
    // with another bit if the message declares the placeholder as a text.
    private static final int PLACEHOLDER = 256;
    private static final int TEXT_BIT = 16;
    private static final int INDEX_BITS = 15;
    // What a placeholder is, is told as 100 * type + width.
    private static final int TEXT_TYPE = 100;
    private static final int UNDECLARED = 10;

    private static final int PLAIN_PATTERN = 0;
    private static final int SOURCE_PATTERN = 1;
    private static final int PLURAL_RULES = 2;
    private static final int TEMPLATE = 3;

    // Obsolete messages are numbered from here where they are suggested.
    private static final int FIRST_OBSOLETE = 100;

    private final char[] pad = new char[MAX_PAD];
    private int padLength = 0;

    private final PatternReader patternReader = new PatternReader();
    private final RulesReader rulesReader = new RulesReader();
    private final TemplateReader templateReader = new TemplateReader();
    private final Matcher matcher = new Matcher();
    private final Showing showing = new Showing();

    private Message[] staged = new Message[0];
    private int[] results = new int[5];

    private State state;
    private final State[] saved = new State[MAX_SAVED];
    private int savedCount = 0;

    public TranslationCatalog() {
        Locale[] locales = new Locale[2];
        locales[0] = firstLocale(0, NONE, 46, "one: n = 1");
        locales[1] = firstLocale(1, 0, 32,
                "one: n % 10 = 1 and n % 100 != 11; few: n % 10 = 2..4 and n % 100 != 12..14");
        Message[] messages = firstMessages(
                "|Quit||8\n|{0:d6} file|{0:d6} files|16\nmenu|Open {1:s9}||");
        if (messages.length == 3) {
            messages[0].setForm(0, OTHER, firstForm("Ende"));
            messages[1].setForm(0, ONE, firstForm("{0} Datei"));
            messages[1].setForm(0, OTHER, firstForm("{0} Dateien"));
            messages[1].setForm(1, ONE, firstForm("{0} fajl"));
            messages[1].setForm(1, 3, firstForm("{0} fajla"));
            messages[2].setForm(0, OTHER, firstForm("{1} laden"));
        }
        Message[] obsolete = firstMessages("|Save {0:s9}||");
        if (obsolete.length == 1) {
            obsolete[0].setForm(0, OTHER, firstForm("{0} sichern"));
        }
        int[] widths = new int[LAST_CODE - FIRST_CODE + 1];
        Arrays.fill(widths, 1);
        state = new State(locales, messages, obsolete, widths, 30);
        showing.keepText(1, "log".toCharArray(), 3);
    }

    private Locale firstLocale(int number, int parent, int separator, String rules) {
        char[] text = rules.toCharArray();
        rulesReader.faultOf(text, text.length);
        Locale bare = new Locale(number, parent, separator, 3);
        return bare.withRules(rulesReader.categoryList(), rulesReader.relationList());
    }

    private Message[] firstMessages(String template) {
        char[] text = template.toCharArray();
        Message[] none = new Message[0];
        templateReader.faultOf(text, text.length, none);
        return templateReader.joinedTo(none);
    }

    private Pattern firstForm(String form) {
        char[] text = form.toCharArray();
        patternReader.faultOf(text, text.length, false);
        return patternReader.patternOf(form);
    }

    // ---- the pad

    public int type(int c) throws IllegalArgumentException, IllegalStateException {
        if (c != LINE_FEED && !isPrintable(c)) {
            throw new IllegalArgumentException("no character of the pad");
        }
        if (padLength < 0 || padLength >= pad.length) {
            throw new IllegalStateException("the pad is full");
        }
        pad[padLength] = (char) c;
        padLength++;
        return padLength;
    }

    public int clearPad() {
        int before = padLength;
        padLength = 0;
        return before;
    }

    public int padFault(int kind) throws IllegalArgumentException {
        switch (kind) {
            case PLAIN_PATTERN:
                return patternReader.faultOf(pad, padLength, false);
            case SOURCE_PATTERN:
                return patternReader.faultOf(pad, padLength, true);
            case PLURAL_RULES:
                return rulesReader.faultOf(pad, padLength);
            case TEMPLATE:
                return templateReader.faultOf(pad, padLength, staged);
            default:
                throw new IllegalArgumentException("no such kind of text");
        }
    }

    // ---- locales

    public int addLocale(int parent) throws IndexOutOfBoundsException, IllegalStateException {
        requireParent(parent);
        int number = state.locales.length;
        if (number >= MAX_LOCALES) {
            throw new IllegalStateException("there are 4 locales");
        }
        Locale[] next = new Locale[number + 1];
        System.arraycopy(state.locales, 0, next, 0, number);
        next[number] = new Locale(number, parent, 0, 3);
        goOn(state.withLocales(next));
        return number;
    }

    public int setParent(int locale, int parent) throws IndexOutOfBoundsException, IllegalArgumentException {
        Locale old = localeAt(locale);
        requireParent(parent);
        if (state.leadsTo(parent, locale)) {
            throw new IllegalArgumentException("the parents would lead back to the locale");
        }
        goOn(state.withLocale(old.with(parent, old.separator, old.groupSize)));
        return old.parent;
    }

    public int setRules(int locale) throws IndexOutOfBoundsException, IllegalArgumentException {
        Locale old = localeAt(locale);
        if (rulesReader.faultOf(pad, padLength) != NONE) {
            throw new IllegalArgumentException("the pad has a fault as plural rules");
        }
        Locale changed = old.withRules(rulesReader.categoryList(), rulesReader.relationList());
        Message[] messages = withoutLostForms(state.messages, changed);
        Message[] obsolete = withoutLostForms(state.obsolete, changed);
        goOn(state.withLocale(changed).withMessages(messages, obsolete));
        return changed.ruleCount();
    }

    public int setGrouping(int locale, int separator, int size)
            throws IndexOutOfBoundsException, IllegalArgumentException {
        Locale old = localeAt(locale);
        if (!isSeparator(separator) || size < 1 || size > 4) {
            throw new IllegalArgumentException("the separator or the group size is out of range");
        }
        goOn(state.withLocale(old.with(old.parent, separator, size)));
        return 10 * old.separator + old.groupSize;
    }

    public int locales() {
        return state.locales.length;
    }

    public int parent(int locale) throws IndexOutOfBoundsException {
        return localeAt(locale).parent;
    }

    public int category(int locale, int n) throws IndexOutOfBoundsException, IllegalArgumentException {
        Locale asked = localeAt(locale);
        if (n < 0) {
            throw new IllegalArgumentException("the number is negative");
        }
        return asked.categoryOf(n);
    }

    public int categoryAt(int locale, int i) throws IndexOutOfBoundsException {
        return numberAt(localeAt(locale).categories, i);
    }

    public int covered(int locale, int category) throws IndexOutOfBoundsException, IllegalArgumentException {
        Locale asked = localeAt(locale);
        requireCategory(category);
        return asked.coverageOf(category);
    }

    private Locale localeAt(int locale) throws IndexOutOfBoundsException {
        if (locale < 0 || locale >= state.locales.length) {
            throw new IndexOutOfBoundsException("no such locale");
        }
        return state.locales[locale];
    }

    private void requireParent(int parent) throws IndexOutOfBoundsException {
        if (parent != NONE) {
            localeAt(parent);
        }
    }

    private static void requireCategory(int category) throws IllegalArgumentException {
        if (category < 0 || category >= CATEGORIES) {
            throw new IllegalArgumentException("no such category");
        }
    }

    private static boolean isSeparator(int c) {
        return c == 0 || isPrintable(c) && !isDigit(c) && c != '-';
    }

    private static Message[] withoutLostForms(Message[] messages, Locale locale) {
        Message[] next = messages.clone();
        for (int i = 0; i < next.length; i++) {
            if (next[i].losesForms(locale)) {
                Message changed = next[i].copy();
                changed.dropLostForms(locale);
                next[i] = changed;
            }
        }
        return next;
    }

    // ---- widths, threshold

    public int setWidth(int c, int width) throws IllegalArgumentException {
        int at = c - FIRST_CODE;
        if (!isPrintable(c) || width < 0 || width > 2 || at < 0 || at >= state.widths.length) {
            throw new IllegalArgumentException("the character or the width is out of range");
        }
        int before = state.widths[at];
        int[] next = state.widths.clone();
        next[at] = width;
        goOn(new State(state.locales, state.messages, state.obsolete, next, state.threshold));
        return before;
    }

    public int setThreshold(int percent) throws IllegalArgumentException {
        if (percent < 0 || percent > MAX_THRESHOLD) {
            throw new IllegalArgumentException("the threshold is out of range");
        }
        int before = state.threshold;
        goOn(new State(state.locales, state.messages, state.obsolete, state.widths, percent));
        return before;
    }

    // ---- templates

    public int stage() throws IllegalArgumentException {
        if (templateReader.faultOf(pad, padLength, staged) != NONE) {
            throw new IllegalArgumentException("the pad has a fault as a template");
        }
        staged = templateReader.joinedTo(staged);
        return staged.length;
    }

    public int unstage() {
        int before = staged.length;
        staged = new Message[0];
        return before;
    }

    public int merge() throws IllegalStateException {
        if (staged.length == 0) {
            throw new IllegalStateException("nothing is staged");
        }
        boolean[] used = new boolean[state.messages.length + state.obsolete.length];
        matcher.takeEqual(state, staged, used);
        matcher.takeSimilar(state, staged, used);
        goOn(state.withMessages(staged, matcher.obsoleteAfter(state, used)));
        results = matcher.resultsFor(staged.length);
        staged = new Message[0];
        return state.messages.length;
    }

    public int merged(int what) throws IllegalArgumentException {
        if (what < 0 || what >= results.length) {
            throw new IllegalArgumentException("no such result");
        }
        return results[what];
    }

    // ---- messages

    public int messages() {
        return state.messages.length;
    }

    public int length(int message, int part) throws IndexOutOfBoundsException, IllegalArgumentException {
        return partOf(messageAt(message), part).length();
    }

    public int characterAt(int message, int part, int i)
            throws IndexOutOfBoundsException, IllegalArgumentException {
        return codeAt(partOf(messageAt(message), part), i);
    }

    public int limit(int message) throws IndexOutOfBoundsException {
        return messageAt(message).widest;
    }

    public int placeholder(int message, int index) throws IndexOutOfBoundsException {
        return numberAt(messageAt(message).placeholders, index);
    }

    public int origin(int message) throws IndexOutOfBoundsException {
        return messageAt(message).origin;
    }

    public int cost(int one, int other) throws IndexOutOfBoundsException {
        return matcher.costOf(messageAt(one), messageAt(other));
    }

    public int obsolete() {
        return state.obsolete.length;
    }

    public int obsoleteCharacter(int k, int i) throws IndexOutOfBoundsException {
        if (k < 0 || k >= state.obsolete.length) {
            throw new IndexOutOfBoundsException("no such obsolete message");
        }
        return codeAt(state.obsolete[k].source.text, i);
    }

    private Message messageAt(int message) throws IndexOutOfBoundsException {
        if (message < 0 || message >= state.messages.length) {
            throw new IndexOutOfBoundsException("no such message");
        }
        return state.messages[message];
    }

    private static String partOf(Message message, int part) throws IllegalArgumentException {
        switch (part) {
            case 0:
                return message.context;
            case 1:
                return message.source.text;
            case 2:
                return message.pluralText();
            default:
                throw new IllegalArgumentException("no such part of a message");
        }
    }

    // ---- translations

    public int check(int locale, int message, int category)
            throws IndexOutOfBoundsException, IllegalArgumentException {
        Locale in = localeAt(locale);
        Message of = messageAt(message);
        requireCategory(category);
        return faultOfForm(in, of, category);
    }

    public int translate(int locale, int message, int category)
            throws IndexOutOfBoundsException, IllegalArgumentException {
        Locale in = localeAt(locale);
        Message old = messageAt(message);
        requireCategory(category);
        if (faultOfForm(in, old, category) != 0) {
            throw new IllegalArgumentException("the pad can't become this form");
        }
        Message changed = old.copy();
        changed.setForm(locale, category, padPattern());
        changed.setMark(locale, false);
        goOn(state.withMessage(message, changed));
        return changed.missingForms(in);
    }

    public int untranslate(int locale, int message) throws IndexOutOfBoundsException, IllegalStateException {
        localeAt(locale);
        Message changed = messageAt(message).copy();
        int removed = changed.clearForms(locale);
        if (removed == 0) {
            throw new IllegalStateException("the message has no form in the locale");
        }
        goOn(state.withMessage(message, changed));
        return removed;
    }

    public int mark(int locale, int message, boolean marked)
            throws IndexOutOfBoundsException, IllegalStateException {
        localeAt(locale);
        Message old = messageAt(message);
        if (!old.hasForms(locale)) {
            throw new IllegalStateException("the message has no form in the locale");
        }
        Message changed = old.copy();
        changed.setMark(locale, marked);
        goOn(state.withMessage(message, changed));
        return old.isMarked(locale) ? 1 : 0;
    }

    public int state(int locale, int message) throws IndexOutOfBoundsException {
        Locale in = localeAt(locale);
        return messageAt(message).stateIn(in);
    }

    public int formCharacter(int locale, int message, int category, int i)
            throws IndexOutOfBoundsException, IllegalArgumentException {
        localeAt(locale);
        Message of = messageAt(message);
        requireCategory(category);
        Pattern form = of.formAt(locale, category);
        return form == null ? NONE : codeAt(form.text, i);
    }

    public int formWidth(int locale, int message, int category)
            throws IndexOutOfBoundsException, IllegalArgumentException {
        localeAt(locale);
        Message of = messageAt(message);
        requireCategory(category);
        Pattern form = of.formAt(locale, category);
        return form == null ? NONE : state.widthOfForm(of, form);
    }

    public int total(int locale, int state) throws IndexOutOfBoundsException, IllegalArgumentException {
        Locale in = localeAt(locale);
        if (state < MISSING || state > READY) {
            throw new IllegalArgumentException("no such state");
        }
        int count = 0;
        for (Message message : this.state.messages) {
            if (message.stateIn(in) == state) {
                count++;
            }
        }
        return count;
    }

    private int faultOfForm(Locale locale, Message message, int category) {
        if (!message.hasCategory(locale, category)) {
            return NO_CATEGORY;
        }
        if (patternReader.faultOf(pad, padLength, false) != NONE) {
            return NO_PATTERN;
        }
        Pattern form = padPattern();
        int misfit = message.misfit(locale, category, form);
        return misfit == 0 && state.isTooWide(message, form) ? TOO_WIDE : misfit;
    }

    /** The pad as a pattern, when the reader has just found no fault in it. */
    private Pattern padPattern() {
        return patternReader.patternOf(textOf(pad, 0, padLength));
    }

    // ---- suggestions

    public int suggestion(int locale, int message, int rank) throws IndexOutOfBoundsException {
        Locale in = localeAt(locale);
        messageAt(message);
        int found = matcher.suggestedFor(state, in, message, rank);
        int messages = state.messages.length;
        return found < messages ? found : FIRST_OBSOLETE + found - messages;
    }

    public int adopt(int locale, int message, int rank)
            throws IndexOutOfBoundsException, IllegalArgumentException {
        Locale in = localeAt(locale);
        Message changed = messageAt(message).copy();
        Message from = state.knownAt(matcher.suggestedFor(state, in, message, rank));
        if (from == null) {
            throw new IllegalArgumentException("no such rank");
        }
        changed.clearForms(locale);
        int got = changed.takeForms(in, from);
        if (got > 0) {
            changed.setMark(locale, true);
            goOn(state.withMessage(message, changed));
        }
        return got;
    }

    // ---- showing

    public int setNumber(int index, long value) throws IndexOutOfBoundsException {
        requireArgument(index);
        return showing.keepNumber(index, value);
    }

    public int setText(int index) throws IndexOutOfBoundsException, IllegalArgumentException {
        requireArgument(index);
        if (padLength > MAX_ARGUMENT || padHasLineFeed()) {
            throw new IllegalArgumentException("the pad is too long or has a line feed");
        }
        return showing.keepText(index, pad, padLength);
    }

    public int show(int locale, int message, int count)
            throws IndexOutOfBoundsException, IllegalArgumentException, IllegalStateException {
        localeAt(locale);
        Message of = messageAt(message);
        requireCount(count);
        Locale from = state.shownFrom(locale, of, count);
        Pattern text = from == null ? of.sourceFor(count) : of.formFor(from, count);
        if (!showing.draw(state, of, text, count, from)) {
            throw new IllegalStateException("an argument does not suit its placeholder");
        }
        return showing.keepDrawn(from == null ? NONE : from.number);
    }

    public int pseudo(int message, int count)
            throws IndexOutOfBoundsException, IllegalArgumentException, IllegalStateException {
        Message of = messageAt(message);
        requireCount(count);
        if (!showing.drawPseudo(state, of, count)) {
            throw new IllegalStateException("an argument does not suit its placeholder");
        }
        return showing.keepDrawn(NONE);
    }

    public int shownCharacter(int i) {
        return i < showing.shownLength ? numberAt(showing.shown, i) : NONE;
    }

    public int shownLocale() {
        return showing.shownFrom;
    }

    private static void requireArgument(int index) throws IndexOutOfBoundsException {
        if (index < 0 || index >= ARGUMENTS) {
            throw new IndexOutOfBoundsException("no such argument");
        }
    }

    private static void requireCount(int count) throws IllegalArgumentException {
        if (count < 0) {
            throw new IllegalArgumentException("the count is negative");
        }
    }

    private boolean padHasLineFeed() {
        for (int i = 0; i < padLength && i < pad.length; i++) {
            if (pad[i] == LINE_FEED) {
                return true;
            }
        }
        return false;
    }

    // ---- problems

    public int problems(int locale) throws IndexOutOfBoundsException {
        ProblemSearch search = new ProblemSearch(state, localeAt(locale), NONE);
        search.run();
        return search.count;
    }

    public int problem(int locale, int i, int what) throws IndexOutOfBoundsException, IllegalArgumentException {
        ProblemSearch search = new ProblemSearch(state, localeAt(locale), i);
        if (what < 0 || what > 2) {
            throw new IllegalArgumentException("no such property of a problem");
        }
        search.run();
        if (what == 0) {
            return search.foundKind;
        }
        return what == 1 ? search.foundMessage : search.foundCategory;
    }

    // ---- undo, checksum

    public int undo() throws IllegalStateException {
        int last = savedCount - 1;
        if (last < 0 || last >= saved.length || saved[last] == null) {
            throw new IllegalStateException("no state is saved");
        }
        state = saved[last];
        saved[last] = null;
        savedCount = last;
        return savedCount;
    }

    public long checksum() {
        long h = mixed(18393L, state.locales.length);
        for (Locale locale : state.locales) {
            h = mixed(h, locale.parent);
            h = mixed(h, locale.separator);
            h = mixed(h, locale.groupSize);
            for (int category : locale.categories) {
                h = mixed(h, category);
            }
        }
        h = mixed(h, state.threshold);
        h = mixedMessages(h, state.messages);
        h = mixedMessages(h, state.obsolete);
        for (int width : state.widths) {
            h = mixed(h, width);
        }
        return mixed(h, savedCount);
    }

    private long mixedMessages(long h, Message[] messages) {
        h = mixed(h, messages.length);
        for (Message message : messages) {
            h = mixedText(h, message.context);
            h = mixedText(h, message.source.text);
            h = mixedText(h, message.pluralText());
            h = mixed(h, message.widest);
            for (Locale locale : state.locales) {
                h = mixedForms(h, message, locale);
            }
        }
        return h;
    }

    private static long mixedForms(long h, Message message, Locale locale) {
        h = mixed(h, message.stateIn(locale));
        h = mixed(h, message.isMarked(locale.number) ? 1 : 0);
        for (int category : message.categoriesIn(locale)) {
            Pattern form = message.formAt(locale.number, category);
            if (form != null) {
                h = mixedCharacters(h, form.text);
            }
            h = mixed(h, -2);
        }
        return h;
    }

    private static long mixedText(long h, String text) {
        return mixedCharacters(mixed(h, text.length()), text);
    }

    private static long mixedCharacters(long h, String text) {
        for (int i = 0; i < text.length(); i++) {
            h = mixed(h, text.charAt(i));
        }
        return h;
    }

    private static long mixed(long h, long v) {
        return 31 * h + v;
    }

    /** Saves the state and goes on with the next one. */
    private void goOn(State next) {
        if (savedCount >= saved.length) {
            System.arraycopy(saved, 1, saved, 0, saved.length - 1);
            savedCount = saved.length - 1;
        }
        if (savedCount >= 0 && savedCount < saved.length) {
            saved[savedCount] = state;
            savedCount++;
        }
        state = next;
    }

    // ---- what several classes need

    private static boolean isPrintable(int c) {
        return c >= FIRST_CODE && c <= LAST_CODE;
    }

    private static boolean isDigit(int c) {
        return c >= '0' && c <= '9';
    }

    private static boolean isSmallLetter(int c) {
        return c >= 'a' && c <= 'z';
    }

    private static int indexOf(int token) {
        return token & INDEX_BITS;
    }

    private static int numberAt(int[] row, int i) {
        return i >= 0 && i < row.length ? row[i] : NONE;
    }

    private static int codeAt(String text, int i) {
        return i >= 0 && i < text.length() ? text.charAt(i) : NONE;
    }

    private static int codeAt(char[] text, int i) {
        return i >= 0 && i < text.length ? text[i] : NONE;
    }

    private static String textOf(char[] text, int from, int to) {
        int start = Math.max(0, Math.min(from, text.length));
        int end = Math.max(start, Math.min(to, text.length));
        char[] part = new char[end - start];
        System.arraycopy(text, start, part, 0, part.length);
        return new String(part);
    }

    /** A text with placeholders, as it was entered and as a row of tokens. */
    private static final class Pattern {
        final String text;
        final int[] tokens;
        /** Bit i is set if the placeholder with index i occurs. */
        final int indices;

        Pattern(String text, int[] tokens, int indices) {
            this.text = text;
            this.tokens = tokens;
            this.indices = indices;
        }

        int sizeForCost() {
            int size = 0;
            for (int token : tokens) {
                size += Matcher.stepCost(token);
            }
            return size;
        }

        /** Whether both consist of the same characters and, by their indices, placeholders. */
        boolean looksLike(Pattern other) {
            boolean same = tokens.length == other.tokens.length;
            for (int i = 0; same && i < tokens.length && i < other.tokens.length; i++) {
                same = tokens[i] < PLACEHOLDER ? tokens[i] == other.tokens[i]
                        : other.tokens[i] >= PLACEHOLDER && indexOf(tokens[i]) == indexOf(other.tokens[i]);
            }
            return same;
        }

        int firstCode() {
            return codeAt(text, 0);
        }

        int lastCode() {
            return codeAt(text, text.length() - 1);
        }
    }

    /** One comparison in a plural rule. */
    private static final class Relation {
        final int category;
        /** 0 if n itself is compared. */
        final int modulus;
        final boolean negated;
        /** The first and last number of each range. */
        final int[] bounds;
        /** No "and" follows. */
        final boolean endsGroup;

        Relation(int category, int modulus, boolean negated, int[] bounds, boolean endsGroup) {
            this.category = category;
            this.modulus = modulus;
            this.negated = negated;
            this.bounds = bounds;
            this.endsGroup = endsGroup;
        }

        boolean holdsFor(int n) {
            int value = modulus > 0 ? n % modulus : n;
            for (int i = 0; i + 1 < bounds.length; i += 2) {
                if (value >= bounds[i] && value <= bounds[i + 1]) {
                    return !negated;
                }
            }
            return negated;
        }
    }

    private static final class Locale {
        final int number;
        final int parent;
        final int separator;
        final int groupSize;
        /** Those of the plural rules, in their order, and then other. */
        final int[] categories;
        /** Those of all plural rules, in the order of the text. */
        private final Relation[] relations;
        // Counting takes long and is seldom asked for, so it waits for the first question. The
        // locales with these rules share the numbers; below 0 they are not yet counted.
        private final int[] coverage;

        Locale(int number, int parent, int separator, int groupSize) {
            this(number, parent, separator, groupSize, new int[] {OTHER}, new Relation[0], uncounted());
        }

        private Locale(int number, int parent, int separator, int groupSize,
                int[] categories, Relation[] relations, int[] coverage) {
            this.number = number;
            this.parent = parent;
            this.separator = separator;
            this.groupSize = groupSize;
            this.categories = categories;
            this.relations = relations;
            this.coverage = coverage;
        }

        private static int[] uncounted() {
            int[] coverage = new int[CATEGORIES];
            Arrays.fill(coverage, NONE);
            return coverage;
        }

        Locale with(int newParent, int newSeparator, int newSize) {
            return new Locale(number, newParent, newSeparator, newSize, categories, relations, coverage);
        }

        Locale withRules(int[] newCategories, Relation[] newRelations) {
            return new Locale(number, parent, separator, groupSize, newCategories, newRelations, uncounted());
        }

        int ruleCount() {
            return categories.length - 1;
        }

        boolean has(int category) {
            for (int one : categories) {
                if (one == category) {
                    return true;
                }
            }
            return false;
        }

        int categoryOf(int n) {
            boolean groupHolds = true;
            for (Relation relation : relations) {
                groupHolds = groupHolds && relation.holdsFor(n);
                if (relation.endsGroup) {
                    if (groupHolds) {
                        return relation.category;
                    }
                    groupHolds = true;
                }
            }
            return OTHER;
        }

        /** How many of the numbers 0 to 999 the category covers. */
        int coverageOf(int category) {
            if (numberAt(coverage, OTHER) < 0) {
                Arrays.fill(coverage, 0);
                for (int n = 0; n < COUNTED_NUMBERS; n++) {
                    int found = categoryOf(n);
                    if (found >= 0 && found < coverage.length) {
                        coverage[found]++;
                    }
                }
            }
            return numberAt(coverage, category);
        }
    }

    /**
     * A message with its forms and marks. Only a message that is not yet part of a State is
     * changed; of one that is, a copy is changed.
     */
    private static final class Message {
        final String context;
        final Pattern source;
        /** Null if it is no plural message. */
        final Pattern plural;
        /** The limit, or NONE. */
        final int widest;
        /** 100 * type + width for each index, or NONE. */
        final int[] placeholders;
        private final Pattern[] forms;
        private final boolean[] marks;
        int origin = NONE;

        Message(String context, Pattern source, Pattern plural, int widest, int[] placeholders) {
            this.context = context;
            this.source = source;
            this.plural = plural;
            this.widest = widest;
            this.placeholders = placeholders;
            this.forms = new Pattern[MAX_LOCALES * CATEGORIES];
            this.marks = new boolean[MAX_LOCALES];
        }

        Message copy() {
            Message copy = new Message(context, source, plural, widest, placeholders);
            copy.origin = origin;
            copy.takeAll(this);
            return copy;
        }

        /** Takes all forms and marks of a message with the same texts. */
        void takeAll(Message from) {
            for (int i = 0; i < forms.length && i < from.forms.length; i++) {
                forms[i] = from.forms[i];
            }
            for (int i = 0; i < marks.length && i < from.marks.length; i++) {
                marks[i] = from.marks[i];
            }
        }

        boolean isPlural() {
            return plural != null;
        }

        String pluralText() {
            return plural == null ? "" : plural.text;
        }

        boolean hasTextsOf(Message other) {
            return context.equals(other.context) && source.text.equals(other.source.text)
                    && pluralText().equals(other.pluralText());
        }

        Pattern sourceFor(int count) {
            return plural == null || count == 1 ? source : plural;
        }

        int lastIndices() {
            return plural == null ? source.indices : plural.indices;
        }

        boolean takesText(int index) {
            return numberAt(placeholders, index) >= TEXT_TYPE;
        }

        int widthAt(int index) {
            int described = numberAt(placeholders, index);
            return described < 0 ? UNDECLARED : described % TEXT_TYPE;
        }

        int[] categoriesIn(Locale locale) {
            return plural == null ? ONLY_OTHER : locale.categories;
        }

        boolean hasCategory(Locale locale, int category) {
            return plural == null ? category == OTHER : locale.has(category);
        }

        private int place(int locale, int category) {
            boolean inside = locale >= 0 && locale < MAX_LOCALES && category >= 0 && category < CATEGORIES;
            return inside ? locale * CATEGORIES + category : NONE;
        }

        /** Null if there is no such form. */
        Pattern formAt(int locale, int category) {
            int at = place(locale, category);
            return at >= 0 && at < forms.length ? forms[at] : null;
        }

        void setForm(int locale, int category, Pattern form) {
            int at = place(locale, category);
            if (at >= 0 && at < forms.length) {
                forms[at] = form;
            }
        }

        boolean isMarked(int locale) {
            return locale >= 0 && locale < marks.length && marks[locale];
        }

        void setMark(int locale, boolean marked) {
            if (locale >= 0 && locale < marks.length) {
                marks[locale] = marked;
            }
        }

        boolean hasForms(int locale) {
            for (int category = 0; category < CATEGORIES; category++) {
                if (formAt(locale, category) != null) {
                    return true;
                }
            }
            return false;
        }

        boolean hasFormsAnywhere() {
            for (Pattern form : forms) {
                if (form != null) {
                    return true;
                }
            }
            return false;
        }

        int missingForms(Locale locale) {
            int missing = 0;
            for (int category : categoriesIn(locale)) {
                if (formAt(locale.number, category) == null) {
                    missing++;
                }
            }
            return missing;
        }

        int stateIn(Locale locale) {
            if (!hasForms(locale.number)) {
                return MISSING;
            }
            if (missingForms(locale) > 0) {
                return PARTIAL;
            }
            return isMarked(locale.number) ? MARKED : READY;
        }

        /** The form that is due for a count; null if it is missing. */
        Pattern formFor(Locale locale, int count) {
            return formAt(locale.number, plural == null ? OTHER : locale.categoryOf(count));
        }

        /** Removes the forms and the mark, and tells how many forms there were. */
        int clearForms(int locale) {
            int removed = 0;
            for (int category = 0; category < CATEGORIES; category++) {
                if (formAt(locale, category) != null) {
                    setForm(locale, category, null);
                    removed++;
                }
            }
            setMark(locale, false);
            return removed;
        }

        /** Whether it has a form for a category that the locale does not give it. */
        boolean losesForms(Locale locale) {
            for (int category = 0; category < CATEGORIES; category++) {
                if (formAt(locale.number, category) != null && !hasCategory(locale, category)) {
                    return true;
                }
            }
            return false;
        }

        void dropLostForms(Locale locale) {
            for (int category = 0; category < CATEGORIES; category++) {
                if (!hasCategory(locale, category)) {
                    setForm(locale.number, category, null);
                }
            }
            if (!hasForms(locale.number)) {
                setMark(locale.number, false);
            }
        }

        /** Takes the forms of another message that suit this one, and tells how many it took. */
        int takeForms(Locale locale, Message from) {
            int taken = 0;
            for (int category : categoriesIn(locale)) {
                Pattern form = from.formAt(locale.number, category);
                if (form != null && misfit(locale, category, form) == 0) {
                    setForm(locale.number, category, form);
                    taken++;
                }
            }
            return taken;
        }

        /** What check() tells of a form that does not fit; 0 if it fits. */
        int misfit(Locale locale, int category, Pattern form) {
            int known = lastIndices();
            if ((form.indices & ~known) != 0) {
                return UNKNOWN_PLACEHOLDER;
            }
            int lacking = known & ~form.indices;
            // A form for a single number need not tell it.
            if ((lacking & 1) != 0 && plural != null && locale.coverageOf(category) <= 1) {
                lacking &= ~1;
            }
            return lacking == 0 ? 0 : LACKING_PLACEHOLDER;
        }
    }

    /** All that undo brings back. Nothing in it is changed once it is made. */
    private static final class State {
        final Locale[] locales;
        final Message[] messages;
        final Message[] obsolete;
        /** From the character 32 on. */
        final int[] widths;
        final int threshold;

        State(Locale[] locales, Message[] messages, Message[] obsolete, int[] widths, int threshold) {
            this.locales = locales;
            this.messages = messages;
            this.obsolete = obsolete;
            this.widths = widths;
            this.threshold = threshold;
        }

        State withLocales(Locale[] next) {
            return new State(next, messages, obsolete, widths, threshold);
        }

        State withLocale(Locale changed) {
            Locale[] next = locales.clone();
            if (changed.number >= 0 && changed.number < next.length) {
                next[changed.number] = changed;
            }
            return withLocales(next);
        }

        State withMessages(Message[] next, Message[] nextObsolete) {
            return new State(locales, next, nextObsolete, widths, threshold);
        }

        State withMessage(int number, Message changed) {
            Message[] next = messages.clone();
            if (number >= 0 && number < next.length) {
                next[number] = changed;
            }
            return withMessages(next, obsolete);
        }

        /** A message, or behind the messages an obsolete one; null if there is none. */
        Message knownAt(int i) {
            if (i >= 0 && i < messages.length) {
                return messages[i];
            }
            int k = i - messages.length;
            return i >= 0 && k >= 0 && k < obsolete.length ? obsolete[k] : null;
        }

        int parentOf(int locale) {
            return locale >= 0 && locale < locales.length ? locales[locale].parent : NONE;
        }

        boolean leadsTo(int from, int locale) {
            int at = from;
            for (int step = 0; step < MAX_LOCALES && at != NONE; step++) {
                if (at == locale) {
                    return true;
                }
                at = parentOf(at);
            }
            return false;
        }

        /** The locale whose form is shown; null if the source is. */
        Locale shownFrom(int locale, Message message, int count) {
            int at = locale;
            for (int step = 0; step < MAX_LOCALES && at >= 0 && at < locales.length; step++) {
                if (isShownIn(locales[at], message, count)) {
                    return locales[at];
                }
                at = parentOf(at);
            }
            return null;
        }

        private boolean isShownIn(Locale locale, Message message, int count) {
            if (message.stateIn(locale) != READY) {
                return false;
            }
            int category = message.isPlural() ? locale.categoryOf(count) : OTHER;
            Pattern form = message.formAt(locale.number, category);
            return form != null && message.misfit(locale, category, form) == 0 && !isTooWide(message, form);
        }

        int widthOf(int c) {
            int at = c - FIRST_CODE;
            return at >= 0 && at < widths.length ? widths[at] : 1;
        }

        int widthOfForm(Message message, Pattern form) {
            int width = 0;
            for (int token : form.tokens) {
                width += token < PLACEHOLDER ? widthOf(token) : message.widthAt(indexOf(token));
            }
            return width;
        }

        boolean isTooWide(Message message, Pattern form) {
            return message.widest != NONE && widthOfForm(message, form) > message.widest;
        }
    }

    /** Reads a pattern, a character at a time, and keeps what it consists of. */
    private static final class PatternReader {
        private static final int IN_TEXT = 0;
        private static final int BEHIND_OPENING = 1;
        private static final int BEHIND_INDEX = 2;
        private static final int BEHIND_COLON = 3;
        private static final int BEHIND_TYPE = 4;
        private static final int BEHIND_FIRST_DIGIT = 5;
        private static final int BEHIND_SECOND_DIGIT = 6;
        private static final int BEHIND_CLOSING = 7;

        final int[] tokens = new int[MAX_PATTERN];
        /** Where each token begins. */
        final int[] starts = new int[MAX_PATTERN];
        int tokenCount;
        /** Bit i is set if the placeholder with index i occurs. */
        int indices;
        /** What is declared for each index, or NONE. */
        final int[] declared = new int[ARGUMENTS];
        /** Where the last token began. */
        int opened;
        /** Whether the last declaration differs from an earlier one. */
        boolean conflict;
        /** Where placeholder 0 was first declared as a text, or NONE. */
        int textForZero;
        private boolean declarationsAllowed;
        private int place;
        private int read;
        private int index;
        private int typeCode;
        private int width;

        void begin(boolean withDeclarations) {
            declarationsAllowed = withDeclarations;
            Arrays.fill(declared, NONE);
            tokenCount = 0;
            indices = 0;
            opened = 0;
            conflict = false;
            textForZero = NONE;
            place = IN_TEXT;
            read = 0;
        }

        /** The patterns of a line share their declarations. */
        void takeDeclarations(PatternReader from) {
            System.arraycopy(from.declared, 0, declared, 0, declared.length);
        }

        int faultOf(char[] text, int end, boolean withDeclarations) {
            begin(withDeclarations);
            for (int i = 0; i < end; i++) {
                if (!accepts(codeAt(text, i))) {
                    return i;
                }
            }
            return isComplete() ? NONE : end;
        }

        boolean isComplete() {
            return read > 0 && place == IN_TEXT;
        }

        /** Reads a character; false if it is not allowed here. */
        boolean accepts(int c) {
            if (read >= MAX_PATTERN || !isPrintable(c) || c == '|') {
                return false;
            }
            read++;
            switch (place) {
                case IN_TEXT:
                    opened = read - 1;
                    if (c == '{') {
                        place = BEHIND_OPENING;
                    } else if (c == '}') {
                        place = BEHIND_CLOSING;
                    } else {
                        addToken(c);
                    }
                    return true;
                case BEHIND_OPENING:
                    if (c == '{') {
                        addToken(c);
                        return true;
                    }
                    index = c - '0';
                    place = BEHIND_INDEX;
                    return isDigit(c);
                case BEHIND_INDEX:
                    if (c == '}') {
                        addToken(PLACEHOLDER + index);
                        return true;
                    }
                    place = BEHIND_COLON;
                    return c == ':' && declarationsAllowed;
                case BEHIND_COLON:
                    typeCode = c == 's' ? TEXT_TYPE : 0;
                    place = BEHIND_TYPE;
                    return c == 'd' || c == 's';
                case BEHIND_TYPE:
                    width = c - '0';
                    place = BEHIND_FIRST_DIGIT;
                    return c >= '1' && c <= '9';
                case BEHIND_FIRST_DIGIT:
                    if (c == '}') {
                        declare();
                        addToken(PLACEHOLDER + index);
                        return true;
                    }
                    width = 10 * width + c - '0';
                    place = BEHIND_SECOND_DIGIT;
                    return isDigit(c) && width <= MAX_PLACEHOLDER_WIDTH;
                case BEHIND_SECOND_DIGIT:
                    declare();
                    addToken(PLACEHOLDER + index);
                    return c == '}';
                default:
                    addToken('}');
                    return c == '}';
            }
        }

        private void declare() {
            if (index < 0 || index >= declared.length) {
                return;
            }
            int described = typeCode + width;
            conflict = declared[index] != NONE && declared[index] != described;
            if (declared[index] == NONE) {
                declared[index] = described;
            }
            if (index == 0 && typeCode == TEXT_TYPE && textForZero == NONE) {
                textForZero = opened;
            }
        }

        private void addToken(int token) {
            if (tokenCount >= 0 && tokenCount < tokens.length && tokenCount < starts.length) {
                tokens[tokenCount] = token;
                starts[tokenCount] = opened;
                tokenCount++;
            }
            if (token >= PLACEHOLDER) {
                indices |= 1 << (token & INDEX_BITS);
            }
            place = IN_TEXT;
        }

        /** The pattern that was read; the caller knows its text. */
        Pattern patternOf(String text) {
            int[] typed = Arrays.copyOf(tokens, Math.max(0, tokenCount));
            for (int i = 0; i < typed.length; i++) {
                if (typed[i] >= PLACEHOLDER && numberAt(declared, indexOf(typed[i])) >= TEXT_TYPE) {
                    typed[i] |= TEXT_BIT;
                }
            }
            return new Pattern(text, typed, indices);
        }

        /** Where the first placeholder begins whose index is not among others; NONE if none is. */
        int firstOutside(int others) {
            for (int i = 0; i < tokenCount && i < tokens.length && i < starts.length; i++) {
                if (tokens[i] >= PLACEHOLDER && (others & 1 << indexOf(tokens[i])) == 0) {
                    return starts[i];
                }
            }
            return NONE;
        }
    }

    /** Reads plural rules, a token at a time. */
    private static final class RulesReader {
        // What a token is: one of these, or the character that a sign begins with.
        private static final int END = 0;
        private static final int NO_TOKEN = 1;
        private static final int WORD = 'a';
        private static final int NUMBER = '0';

        // What has to follow.
        private static final int AT_START = 0;
        private static final int NAME = 1;
        private static final int COLON = 2;
        private static final int LETTER_N = 3;
        private static final int BEHIND_N = 4;
        private static final int MODULUS = 5;
        private static final int COMPARISON = 6;
        private static final int FIRST_NUMBER = 7;
        private static final int BEHIND_FIRST = 8;
        private static final int SECOND_NUMBER = 9;
        private static final int BEHIND_RANGE = 10;

        private char[] text = new char[0];
        private int end;
        private int at;
        private int start;
        private int token;
        private int number;
        private int due;

        private final int[] categories = new int[CATEGORIES];
        private int ruleCount;
        private final Relation[] relations = new Relation[MAX_RELATIONS];
        private int relationCount;

        // The relation that is being read.
        private int modulus;
        private boolean negated;
        private final int[] bounds = new int[MAX_PAD];
        private int boundCount;

        int faultOf(char[] rules, int length) {
            text = rules;
            end = Math.min(length, rules.length);
            at = 0;
            due = AT_START;
            ruleCount = 0;
            relationCount = 0;
            // Each turn but the last one reads a character at least.
            for (int turn = 0; turn <= end; turn++) {
                readToken();
                if (token == END) {
                    return mayEnd() ? NONE : end;
                }
                if (!accepts()) {
                    return start;
                }
            }
            return end;
        }

        /** The categories of the rules in which no fault was found, and then other. */
        int[] categoryList() {
            int[] found = Arrays.copyOf(categories, Math.max(0, ruleCount) + 1);
            found[found.length - 1] = OTHER;
            return found;
        }

        Relation[] relationList() {
            Relation[] found = new Relation[Math.max(0, Math.min(relationCount, relations.length))];
            System.arraycopy(relations, 0, found, 0, found.length);
            return found;
        }

        private void readToken() {
            while (at < end && codeAt(text, at) == ' ') {
                at++;
            }
            start = at;
            int c = at < end ? codeAt(text, at) : NONE;
            if (c == NONE) {
                token = END;
            } else if (isSmallLetter(c)) {
                while (at < end && isSmallLetter(codeAt(text, at))) {
                    at++;
                }
                token = WORD;
            } else if (isDigit(c)) {
                readNumber();
            } else {
                readSign(c);
            }
        }

        private void readNumber() {
            number = 0;
            for (; at < end && isDigit(codeAt(text, at)); at++) {
                // The number of a text that is too long is not used.
                number = 10 * number + codeAt(text, at) - '0';
            }
            int digits = at - start;
            boolean leadingZero = digits > 1 && codeAt(text, start) == '0';
            token = digits > 4 || leadingZero ? NO_TOKEN : NUMBER;
        }

        private void readSign(int c) {
            int next = at + 1 < end ? codeAt(text, at + 1) : NONE;
            boolean isDouble = c == '!' && next == '=' || c == '.' && next == '.';
            boolean isSingle = c == ';' || c == ':' || c == '%' || c == '=' || c == ',';
            token = isDouble || isSingle ? c : NO_TOKEN;
            at += isDouble ? 2 : 1;
        }

        private boolean isWord(String word) {
            if (token != WORD || at - start != word.length()) {
                return false;
            }
            for (int i = 0; i < word.length(); i++) {
                if (codeAt(text, start + i) != word.charAt(i)) {
                    return false;
                }
            }
            return true;
        }

        /** Takes the token; false if it is not allowed here. */
        private boolean accepts() {
            switch (due) {
                case AT_START:
                case NAME:
                    return acceptsName(categoryNamed());
                case COLON:
                    due = LETTER_N;
                    return token == ':';
                case LETTER_N:
                    modulus = 0;
                    negated = false;
                    boundCount = 0;
                    due = BEHIND_N;
                    return isWord("n") && relationCount < MAX_RELATIONS;
                case BEHIND_N:
                    if (token == '%') {
                        due = MODULUS;
                        return true;
                    }
                    return acceptsComparison();
                case MODULUS:
                    modulus = number;
                    due = COMPARISON;
                    return token == NUMBER && number > 0;
                case COMPARISON:
                    return acceptsComparison();
                case FIRST_NUMBER:
                    due = BEHIND_FIRST;
                    return token == NUMBER && addRange();
                case BEHIND_FIRST:
                    if (token == '.') {
                        due = SECOND_NUMBER;
                        return true;
                    }
                    return acceptsBehindRange();
                case SECOND_NUMBER:
                    due = BEHIND_RANGE;
                    return token == NUMBER && endRange();
                default:
                    return acceptsBehindRange();
            }
        }

        private boolean acceptsName(int category) {
            if (category == NONE || ruleCount < 0 || ruleCount >= OTHER || ruleCount >= categories.length) {
                return false;
            }
            for (int i = 0; i < ruleCount && i < categories.length; i++) {
                if (categories[i] == category) {
                    return false;
                }
            }
            categories[ruleCount] = category;
            ruleCount++;
            due = COLON;
            return true;
        }

        private int categoryNamed() {
            if (isWord("zero")) {
                return 0;
            }
            if (isWord("one")) {
                return ONE;
            }
            if (isWord("two")) {
                return 2;
            }
            if (isWord("few")) {
                return 3;
            }
            return isWord("many") ? 4 : NONE;
        }

        private boolean acceptsComparison() {
            negated = token == '!';
            due = FIRST_NUMBER;
            return token == '=' || token == '!';
        }

        private boolean addRange() {
            if (boundCount < 0 || boundCount + 1 >= bounds.length) {
                return false;
            }
            bounds[boundCount] = number;
            bounds[boundCount + 1] = number;
            boundCount += 2;
            return true;
        }

        private boolean endRange() {
            int last = boundCount - 1;
            if (last < 0 || last >= bounds.length || number < bounds[last]) {
                return false;
            }
            bounds[last] = number;
            return true;
        }

        private boolean acceptsBehindRange() {
            if (token == ',') {
                due = FIRST_NUMBER;
                return true;
            }
            if (token == ';') {
                endRelation(true);
                due = NAME;
                return true;
            }
            boolean isOr = isWord("or");
            if (!isOr && !isWord("and")) {
                return false;
            }
            endRelation(isOr);
            due = LETTER_N;
            return true;
        }

        private boolean mayEnd() {
            if (due == BEHIND_FIRST || due == BEHIND_RANGE) {
                endRelation(true);
                return true;
            }
            return due == AT_START;
        }

        private void endRelation(boolean endsGroup) {
            int rule = ruleCount - 1;
            if (rule < 0 || rule >= categories.length || relationCount < 0 || relationCount >= relations.length) {
                return;
            }
            int[] ranges = Arrays.copyOf(bounds, Math.max(0, boundCount));
            relations[relationCount] = new Relation(categories[rule], modulus, negated, ranges, endsGroup);
            relationCount++;
        }
    }

    /** Reads a template line by line and remembers where the parts of its lines stand. */
    private static final class TemplateReader {
        private final PatternReader source = new PatternReader();
        private final PatternReader plural = new PatternReader();
        private char[] text = new char[0];
        private int end;
        private int at;

        // Where each line begins, and where its third bar stands.
        private final int[] lineStarts = new int[MAX_MESSAGES];
        private final int[] pluralEnds = new int[MAX_MESSAGES];
        private int lines;

        // The line that is being read.
        private int lineStart;
        private int sourceStart;
        private int pluralStart;
        private int pluralEnd;
        private int widest;

        int faultOf(char[] template, int length, Message[] staged) {
            text = template;
            end = Math.min(length, template.length);
            at = 0;
            lines = 0;
            // Each line has three bars at least.
            for (int turn = 0; turn <= end; turn++) {
                int fault = readLine();
                if (fault == NONE) {
                    fault = faultOfLine(staged);
                }
                if (fault != NONE) {
                    return fault;
                }
                addLine();
                if (at >= end) {
                    return NONE;
                }
                at++;
            }
            return end;
        }

        /** The staged messages and those of the template in which no fault was found. */
        Message[] joinedTo(Message[] staged) {
            Message[] joined = new Message[staged.length + Math.max(0, lines)];
            for (int i = 0; i < joined.length; i++) {
                joined[i] = i < staged.length ? staged[i] : messageOf(i - staged.length);
            }
            return joined;
        }

        private Message messageOf(int line) {
            at = Math.max(0, numberAt(lineStarts, line));
            readLine();
            source.takeDeclarations(plural);
            Pattern first = source.patternOf(textOf(text, sourceStart, pluralStart - 1));
            Pattern last = first;
            if (pluralEnd > pluralStart) {
                last = plural.patternOf(textOf(text, pluralStart, pluralEnd));
            }
            int[] placeholders = new int[ARGUMENTS];
            for (int i = 0; i < placeholders.length; i++) {
                int described = numberAt(plural.declared, i);
                boolean occurs = (last.indices & 1 << i) != 0;
                placeholders[i] = !occurs ? NONE : described == NONE ? UNDECLARED : described;
            }
            String context = textOf(text, lineStart, sourceStart - 1);
            return new Message(context, first, last == first ? null : last, widest, placeholders);
        }

        /** Reads a line up to its end; the fault of its characters, or NONE. */
        private int readLine() {
            lineStart = at;
            int fault = readContext();
            if (fault != NONE) {
                return fault;
            }
            sourceStart = at;
            source.begin(true);
            fault = readPattern(source, false);
            if (fault != NONE) {
                return fault;
            }
            pluralStart = at;
            plural.begin(true);
            plural.takeDeclarations(source);
            fault = readPattern(plural, true);
            if (fault != NONE) {
                return fault;
            }
            pluralEnd = at - 1;
            return readLimit();
        }

        private int readContext() {
            for (; at < end; at++) {
                int c = codeAt(text, at);
                if (c == '|') {
                    at++;
                    return NONE;
                }
                if (at - lineStart >= MAX_CONTEXT || !isSmallLetter(c) && !isDigit(c)) {
                    return at;
                }
            }
            return end;
        }

        /** Reads a pattern and the bar behind it. */
        private int readPattern(PatternReader reader, boolean mayBeEmpty) {
            int from = at;
            for (; at < end; at++) {
                int c = codeAt(text, at);
                if (c == '|' && (reader.isComplete() || mayBeEmpty && at == from)) {
                    at++;
                    return NONE;
                }
                if (!reader.accepts(c)) {
                    return at;
                }
                if (reader.conflict) {
                    return from + reader.opened;
                }
            }
            return end;
        }

        private int readLimit() {
            int from = at;
            widest = NONE;
            for (; at < end; at++) {
                int c = codeAt(text, at);
                if (c == LINE_FEED) {
                    return NONE;
                }
                if (!isDigit(c) || c == '0' && at == from) {
                    return at;
                }
                widest = at == from ? c - '0' : 10 * widest + c - '0';
                if (widest > MAX_LIMIT) {
                    return at;
                }
            }
            return NONE;
        }

        /** The fault of a line whose characters are allowed. */
        private int faultOfLine(Message[] staged) {
            if (pluralEnd > pluralStart) {
                int outside = source.firstOutside(plural.indices);
                if (outside != NONE) {
                    return sourceStart + outside;
                }
                if (source.textForZero != NONE) {
                    return sourceStart + source.textForZero;
                }
                if (plural.textForZero != NONE) {
                    return pluralStart + plural.textForZero;
                }
            }
            if (staged.length + lines >= MAX_MESSAGES) {
                return lineStart;
            }
            return isStaged(staged) || isLineBefore() ? lineStart : NONE;
        }

        private boolean isStaged(Message[] staged) {
            for (Message message : staged) {
                if (stands(message.context, lineStart, sourceStart - 1)
                        && stands(message.source.text, sourceStart, pluralStart - 1)
                        && stands(message.pluralText(), pluralStart, pluralEnd)) {
                    return true;
                }
            }
            return false;
        }

        private boolean stands(String part, int from, int to) {
            if (part.length() != to - from) {
                return false;
            }
            for (int i = 0; i < part.length(); i++) {
                if (part.charAt(i) != codeAt(text, from + i)) {
                    return false;
                }
            }
            return true;
        }

        // The three parts are the same if the texts up to the third bar are.
        private boolean isLineBefore() {
            for (int line = 0; line < lines; line++) {
                int from = numberAt(lineStarts, line);
                int size = pluralEnd - lineStart;
                boolean same = numberAt(pluralEnds, line) - from == size;
                for (int i = 0; i < size && same; i++) {
                    same = codeAt(text, from + i) == codeAt(text, lineStart + i);
                }
                if (same) {
                    return true;
                }
            }
            return false;
        }

        private void addLine() {
            if (lines >= 0 && lines < lineStarts.length && lines < pluralEnds.length) {
                lineStarts[lines] = lineStart;
                pluralEnds[lines] = pluralEnd;
                lines++;
            }
        }
    }

    /** Compares messages, and matches new ones with those that are known. */
    private static final class Matcher {
        private static final int CHARACTER_COST = 2;
        private static final int PLACEHOLDER_COST = 6;
        private static final int FAR_TOO_MUCH = 1000000;

        // Rows of the table of distances: the finished one and the one that is being made.
        private int[] finished = new int[MAX_PATTERN + 1];
        private int[] begun = new int[MAX_PATTERN + 1];

        private int equalCount;
        private int similarCount;
        private int lostCount;
        private int droppedCount;

        static int stepCost(int token) {
            return token < PLACEHOLDER ? CHARACTER_COST : PLACEHOLDER_COST;
        }

        int costOf(Message one, Message other) {
            int cost = distance(one.source, other.source);
            if (one.plural != null && other.plural != null) {
                cost += distance(one.plural, other.plural);
            } else if (one.plural != null || other.plural != null) {
                cost += 10;
            }
            return one.context.equals(other.context) ? cost : cost + 5;
        }

        private int distance(Pattern from, Pattern to) {
            int columns = Math.min(to.tokens.length, Math.min(finished.length, begun.length) - 1);
            if (columns < 0) {
                return 0;
            }
            finished[0] = 0;
            for (int j = 0; j < columns; j++) {
                finished[j + 1] = finished[j] + stepCost(to.tokens[j]);
            }
            for (int token : from.tokens) {
                begun[0] = finished[0] + stepCost(token);
                for (int j = 0; j < columns; j++) {
                    int wanted = to.tokens[j];
                    int removing = finished[j + 1] + stepCost(token);
                    int inserting = begun[j] + stepCost(wanted);
                    int replacing = finished[j] + replacingCost(token, wanted);
                    begun[j + 1] = Math.min(replacing, Math.min(removing, inserting));
                }
                int[] row = finished;
                finished = begun;
                begun = row;
            }
            return finished[columns];
        }

        private static int replacingCost(int token, int wanted) {
            if (token == wanted) {
                return 0;
            }
            if (token >= PLACEHOLDER && wanted >= PLACEHOLDER) {
                return 4;
            }
            if (token >= PLACEHOLDER || wanted >= PLACEHOLDER) {
                return FAR_TOO_MUCH;
            }
            // Upper and lower case of a letter differ by this bit alone.
            int small = token | 32;
            return small >= 'a' && small <= 'z' && small == (wanted | 32) ? 1 : 3;
        }

        private static boolean areSimilar(Message one, Message other, int cost, int threshold) {
            return 200 * cost <= threshold * (one.source.sizeForCost() + other.source.sizeForCost());
        }

        /** The cost of two messages, or NONE if they are not similar. */
        private int costIfSimilar(Message one, Message other, int threshold) {
            int cost = costOf(one, other);
            return areSimilar(one, other, cost, threshold) ? cost : NONE;
        }

        /** The place of a suggestion among the messages and the obsolete ones behind them, or NONE. */
        int suggestedFor(State state, Locale locale, int message, int rank) {
            Message asking = state.knownAt(message);
            int[] costs = new int[state.messages.length + state.obsolete.length];
            for (int i = 0; i < costs.length; i++) {
                Message known = state.knownAt(i);
                boolean offered = asking != null && known != null && i != message
                        && known.stateIn(locale) == READY;
                costs[i] = offered ? costIfSimilar(asking, known, state.threshold) : NONE;
            }
            for (int i = 0; i < costs.length; i++) {
                if (costs[i] != NONE && rankOf(costs, i) == rank) {
                    return i;
                }
            }
            return NONE;
        }

        private static int rankOf(int[] costs, int place) {
            int own = numberAt(costs, place);
            int before = 0;
            for (int i = 0; i < costs.length; i++) {
                if (costs[i] != NONE && (costs[i] < own || costs[i] == own && i < place)) {
                    before++;
                }
            }
            return before;
        }

        /** What merged() tells of the last merge, of so many fresh messages. */
        int[] resultsFor(int fresh) {
            int without = fresh - equalCount - similarCount;
            return new int[] {equalCount, similarCount, without, lostCount, droppedCount};
        }

        /** Step 1 of a merge. */
        void takeEqual(State old, Message[] fresh, boolean[] used) {
            equalCount = 0;
            for (Message message : fresh) {
                for (int p = 0; p < used.length && message.origin == NONE; p++) {
                    Message known = old.knownAt(p);
                    if (!used[p] && known != null && message.hasTextsOf(known)) {
                        message.origin = p;
                        message.takeAll(known);
                        used[p] = true;
                        equalCount++;
                    }
                }
            }
        }

        /** Step 2 of a merge. */
        void takeSimilar(State old, Message[] fresh, boolean[] used) {
            similarCount = 0;
            int[] costs = costsOfPairs(old, fresh, used);
            // Each turn but the last one gives a message its origin.
            for (int turn = 0; turn < fresh.length; turn++) {
                int pair = cheapestPair(costs, fresh, used);
                if (pair < 0 || used.length == 0) {
                    return;
                }
                int f = pair / used.length;
                int p = pair % used.length;
                Message known = old.knownAt(p);
                if (f >= fresh.length || p < 0 || known == null) {
                    return;
                }
                fresh[f].origin = p;
                used[p] = true;
                similarCount++;
                for (Locale locale : old.locales) {
                    if (fresh[f].takeForms(locale, known) > 0) {
                        fresh[f].setMark(locale.number, true);
                    }
                }
            }
        }

        /** Row by row for each fresh message the costs of those of the pool, NONE if they can't be a pair. */
        private int[] costsOfPairs(State old, Message[] fresh, boolean[] used) {
            int[] costs = new int[fresh.length * used.length];
            for (int i = 0; i < costs.length && used.length > 0; i++) {
                int f = i / used.length;
                int p = i % used.length;
                Message known = old.knownAt(p);
                boolean open = f < fresh.length && p >= 0 && known != null
                        && fresh[f].origin == NONE && !used[p] && known.hasFormsAnywhere();
                costs[i] = open ? costIfSimilar(fresh[f], known, old.threshold) : NONE;
            }
            return costs;
        }

        private static int cheapestPair(int[] costs, Message[] fresh, boolean[] used) {
            int best = NONE;
            int least = FAR_TOO_MUCH;
            for (int i = 0; i < costs.length && used.length > 0; i++) {
                int f = i / used.length;
                int p = i % used.length;
                boolean open = f < fresh.length && p >= 0 && fresh[f].origin == NONE && !used[p];
                if (open && costs[i] != NONE && costs[i] < least) {
                    best = i;
                    least = costs[i];
                }
            }
            return best;
        }

        /** Step 3 of a merge. */
        Message[] obsoleteAfter(State old, boolean[] used) {
            Message[] kept = new Message[used.length];
            int count = 0;
            int first = old.messages.length;
            for (int p = first; p < used.length; p++) {
                Message known = old.knownAt(p);
                if (!used[p] && known != null && count < kept.length) {
                    kept[count] = known;
                    count++;
                }
            }
            int before = count;
            for (int p = 0; p < first && p < used.length && count < kept.length; p++) {
                Message known = old.knownAt(p);
                if (!used[p] && known != null && known.hasFormsAnywhere()) {
                    kept[count] = known;
                    count++;
                }
            }
            lostCount = count - before;
            droppedCount = Math.max(0, count - MAX_OBSOLETE);
            Message[] obsolete = new Message[count - droppedCount];
            System.arraycopy(kept, droppedCount, obsolete, 0, obsolete.length);
            return obsolete;
        }
    }

    /** The arguments and the shown text. */
    private static final class Showing {
        private static final int NOT_SET = 0;
        private static final int A_NUMBER = 1;
        private static final int A_TEXT = 2;
        // At most 20 placeholders stand in a pattern, each for at most 40 characters.
        private static final int MAX_SHOWN = 1000;
        private static final int MAX_DIGITS = 19;

        private final int[] kinds = new int[ARGUMENTS];
        private final long[] numbers = new long[ARGUMENTS];
        private final int[] textLengths = new int[ARGUMENTS];
        /** For each argument a row of 40 characters. */
        private final int[] texts = new int[ARGUMENTS * MAX_ARGUMENT];
        private final int[] digits = new int[MAX_DIGITS];

        int[] shown = new int[MAX_SHOWN];
        int shownLength = 0;
        int shownFrom = NONE;
        // A text is drawn here first, since it may turn out that it can't be shown.
        private int[] draft = new int[MAX_SHOWN];
        private int draftLength = 0;

        /** Sets an argument and tells what it was before. */
        int keepNumber(int index, long value) {
            if (index < 0 || index >= kinds.length || index >= numbers.length) {
                return NOT_SET;
            }
            int before = kinds[index];
            kinds[index] = A_NUMBER;
            numbers[index] = value;
            return before;
        }

        /** Sets an argument and tells what it was before. */
        int keepText(int index, char[] text, int size) {
            if (index < 0 || index >= kinds.length || index >= textLengths.length) {
                return NOT_SET;
            }
            int before = kinds[index];
            int row = index * MAX_ARGUMENT;
            for (int i = 0; i < size && i < MAX_ARGUMENT && row + i < texts.length; i++) {
                texts[row + i] = codeAt(text, i);
            }
            kinds[index] = A_TEXT;
            textLengths[index] = size;
            return before;
        }

        /** Draws a form of a locale, or with null as the locale a source; false if a value does not suit. */
        boolean draw(State state, Message message, Pattern text, int count, Locale from) {
            draftLength = 0;
            boolean suits = text != null;
            for (int i = 0; suits && i < text.tokens.length; i++) {
                int token = text.tokens[i];
                if (token < PLACEHOLDER) {
                    put(token);
                } else {
                    suits = drawValue(state, message, indexOf(token), count, from);
                }
            }
            return suits;
        }

        boolean drawPseudo(State state, Message message, int count) {
            draftLength = 0;
            put('[');
            for (int token : message.sourceFor(count).tokens) {
                if (token >= PLACEHOLDER) {
                    if (!drawValue(state, message, indexOf(token), count, null)) {
                        return false;
                    }
                } else {
                    put(token);
                    if (isVowel(token)) {
                        put(token);
                    }
                }
            }
            put(']');
            return true;
        }

        /** Makes the drawn text the shown one and tells its length. */
        int keepDrawn(int from) {
            int[] row = shown;
            shown = draft;
            draft = row;
            shownLength = draftLength;
            shownFrom = from;
            return shownLength;
        }

        private boolean drawValue(State state, Message message, int index, int count, Locale from) {
            int begin = draftLength;
            if (index == 0 && message.isPlural()) {
                putNumber(count, from);
            } else if (index < 0 || index >= kinds.length
                    || kinds[index] != (message.takesText(index) ? A_TEXT : A_NUMBER)) {
                return false;
            } else if (kinds[index] == A_TEXT) {
                putText(index);
            } else if (index < numbers.length) {
                putNumber(numbers[index], from);
            }
            int width = 0;
            for (int i = begin; i < draftLength; i++) {
                width += state.widthOf(numberAt(draft, i));
            }
            return width <= message.widthAt(index);
        }

        private void putText(int index) {
            int row = index * MAX_ARGUMENT;
            int size = numberAt(textLengths, index);
            for (int i = 0; i < size; i++) {
                put(numberAt(texts, row + i));
            }
        }

        private void putNumber(long value, Locale from) {
            int count = readDigits(value);
            if (value < 0) {
                put('-');
            }
            for (int left = count - 1; left >= 0; left--) {
                put(numberAt(digits, left));
                boolean grouped = left > 0 && from != null && from.separator != 0 && from.groupSize > 0;
                if (grouped && left % from.groupSize == 0) {
                    put(from.separator);
                }
            }
        }

        /** Puts the digits of a number into their row, the last one first, and tells how many there are. */
        private int readDigits(long value) {
            long rest = value;
            int count = 0;
            for (int i = 0; i < digits.length && (i == 0 || rest != 0); i++) {
                // The least long has no positive counterpart, so each digit is made positive alone.
                digits[i] = '0' + (int) Math.abs(rest % 10);
                rest /= 10;
                count++;
            }
            return count;
        }

        private void put(int c) {
            if (draftLength >= 0 && draftLength < draft.length) {
                draft[draftLength] = c;
                draftLength++;
            }
        }

        private static boolean isVowel(int c) {
            int small = c | 32;
            return small == 'a' || small == 'e' || small == 'i' || small == 'o' || small == 'u';
        }
    }

    /** Goes through the problems of a locale, counts them and keeps the one with a wanted position. */
    private static final class ProblemSearch {
        private final State state;
        private final Locale locale;
        private final int wanted;
        int count = 0;
        int foundKind = NONE;
        int foundMessage = NONE;
        int foundCategory = NONE;

        ProblemSearch(State state, Locale locale, int wanted) {
            this.state = state;
            this.locale = locale;
            this.wanted = wanted;
        }

        void run() {
            for (int i = 0; i < locale.ruleCount(); i++) {
                int category = numberAt(locale.categories, i);
                if (locale.coverageOf(category) == 0) {
                    add(1, NONE, category);
                }
            }
            for (int i = 0; i < state.messages.length; i++) {
                Message message = state.messages[i];
                lookAtState(i, message);
                // A missing message has no form, so it has no other problem.
                for (int category : message.categoriesIn(locale)) {
                    Pattern form = message.formAt(locale.number, category);
                    if (form != null) {
                        lookAtForm(i, message, category, form);
                    }
                }
            }
        }

        private void lookAtState(int number, Message message) {
            if (message.stateIn(locale) == MISSING) {
                add(2, number, NONE);
                return;
            }
            for (int category : message.categoriesIn(locale)) {
                if (message.formAt(locale.number, category) == null) {
                    add(3, number, category);
                }
            }
            if (message.isMarked(locale.number)) {
                add(4, number, NONE);
            }
        }

        private void lookAtForm(int number, Message message, int category, Pattern form) {
            if (message.misfit(locale, category, form) != 0) {
                add(5, number, category);
            }
            if (state.isTooWide(message, form)) {
                add(6, number, category);
            }
            Pattern source = message.sourceFor(category == ONE ? 1 : 0);
            int last = form.lastCode();
            int lastOfSource = source.lastCode();
            boolean beginsOtherwise = (form.firstCode() == ' ') != (source.firstCode() == ' ');
            boolean endsOtherwise = (last == ' ') != (lastOfSource == ' ');
            if (beginsOtherwise || endsOtherwise) {
                add(7, number, category);
            }
            if (last != lastOfSource && (isEndSign(last) || isEndSign(lastOfSource))) {
                add(8, number, category);
            }
            if (form.looksLike(source)) {
                add(9, number, category);
            }
        }

        private static boolean isEndSign(int c) {
            return c == '.' || c == '!' || c == '?' || c == ':';
        }

        private void add(int kind, int message, int category) {
            if (count == wanted) {
                foundKind = kind;
                foundMessage = message;
                foundCategory = category;
            }
            count++;
        }
    }
}
