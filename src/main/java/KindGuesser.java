import java.util.Arrays;

/** Tells what a file is, by its name and its bytes, and which programs open it. */
public final class KindGuesser {
    private static final int NONE = -1;
    private static final int TEXT = -1;
    private static final int NO_TEXT = -2;

    private static final int MOST_KINDS = 14;
    private static final int MOST_PATTERNS = 20;
    private static final int MOST_TOKENS = 8;
    private static final int MOST_LETTERS = 12;
    private static final int MOST_RULES = 12;
    private static final int MOST_TESTS = 6;
    private static final int MOST_BYTES = 16;
    private static final int LISTS = 3;
    private static final int PROGRAMS = 10;

    private static final int GREATEST_LETTER = 9;
    private static final int GREATEST_BYTE = 255;
    private static final int GREATEST_WEIGHT = 100;
    private static final int GREATEST_PRIORITY = 100;
    private static final int STRONG_PRIORITY = 50;

    private static final int ANY_ROW = 10;
    private static final int ANY_LETTER = 11;
    private static final int TOKENS_OF_ONE_NUMBER = 4;
    private static final int DIGITS_OF_ONE_TOKEN = 100;

    private static final int ADDED = 1;
    private static final int REMOVED = 2;

    private final KindTree tree = new KindTree();
    private final NameSide nameSide = new NameSide();
    private final ByteSide byteSide = new ByteSide();
    private final ProgramLists programLists = new ProgramLists();

    /** Begins without kinds, with an empty file. */
    public KindGuesser() {
    }

    // ---- kinds, patterns, rules

    /** Makes a kind below a parent, or below none if that is -1; answers its number. */
    public int kind(int parent) throws IndexOutOfBoundsException, IllegalStateException {
        if (parent != NONE && !tree.has(parent)) {
            throw new IndexOutOfBoundsException("no such parent");
        }
        if (tree.isFull()) {
            throw new IllegalStateException("there are 14 kinds");
        }
        return tree.add(parent);
    }

    /** Adds a pattern, whose tokens stand in two numbers, two digits each; answers its number. */
    public int pattern(int kind, int weight, int tokens, int first, int second)
            throws IndexOutOfBoundsException, IllegalArgumentException, IllegalStateException {
        requireKind(kind);
        requireRange(weight, 0, GREATEST_WEIGHT);
        requireRange(tokens, 0, MOST_TOKENS);
        requireArgument(first >= 0 && second >= 0);
        for (int place = 0; place < tokens; place++) {
            requireRange(tokenAt(place, first, second), 0, ANY_LETTER);
        }
        if (nameSide.isFullOfPatterns()) {
            throw new IllegalStateException("there were 20 patterns");
        }
        for (int place = 0; place < tokens; place++) {
            nameSide.writeToken(place, tokenAt(place, first, second));
        }
        return nameSide.addPattern(kind, weight, tokens);
    }

    /** Drops a pattern; answers how many are left. */
    public int drop(int pattern) throws IndexOutOfBoundsException {
        requirePattern(pattern);
        return nameSide.dropPattern(pattern);
    }

    /** Adds a rule without tests; answers its number. */
    public int rule(int kind, int priority)
            throws IndexOutOfBoundsException, IllegalArgumentException, IllegalStateException {
        requireKind(kind);
        requireRange(priority, 0, GREATEST_PRIORITY);
        if (byteSide.isFullOfRules()) {
            throw new IllegalStateException("there are 12 rules");
        }
        return byteSide.addRule(kind, priority);
    }

    /** Adds a test to a rule; answers how many tests the rule has then. */
    public int test(int rule, int level, int from, int to, int value, int mask)
            throws IndexOutOfBoundsException, IllegalArgumentException, IllegalStateException {
        requireRule(rule);
        requireRange(level, 0, byteSide.greatestNextLevel(rule));
        requireRange(from, 0, MOST_BYTES - 1);
        requireRange(to, from, MOST_BYTES - 1);
        requireRange(value, 0, GREATEST_BYTE);
        requireRange(mask, 0, GREATEST_BYTE);
        if (byteSide.isFullOfTests(rule)) {
            throw new IllegalStateException("the rule has 6 tests");
        }
        return byteSide.addTest(rule, level, from, to, value, mask);
    }

    /** Answers how many kinds there are. */
    public int kinds() {
        return tree.size();
    }

    /** Tells whether a kind is a special one of another one, or of itself. */
    public boolean isSpecial(int kind, int other) throws IndexOutOfBoundsException {
        requireKind(kind);
        requireKind(other);
        return tree.leadsUp(kind, other);
    }

    // ---- the file

    /** Adds a letter to the name; answers how many it has then. */
    public int letter(int letter) throws IllegalArgumentException, IllegalStateException {
        requireRange(letter, 0, GREATEST_LETTER);
        if (nameSide.isFullOfLetters()) {
            throw new IllegalStateException("the name has 12 letters");
        }
        return nameSide.addLetter(letter);
    }

    /** Adds a byte; answers how many there are then. */
    public int put(int value) throws IllegalArgumentException, IllegalStateException {
        requireRange(value, 0, GREATEST_BYTE);
        if (byteSide.isFullOfBytes()) {
            throw new IllegalStateException("there are 16 bytes");
        }
        return byteSide.addByte(value);
    }

    /** Empties name and bytes; answers how many letters and bytes there were together. */
    public int empty() {
        return nameSide.clearName() + byteSide.clearBytes();
    }

    // ---- what it is

    /** Tells whether a pattern fits the name. */
    public boolean fits(int pattern) throws IndexOutOfBoundsException {
        requirePattern(pattern);
        return nameSide.fitsName(pattern);
    }

    /** Tells the same as {@link #fits}, by a table of all beginnings of the pattern and of the name. */
    public boolean fitsByTable(int pattern) throws IndexOutOfBoundsException {
        requirePattern(pattern);
        return nameSide.fitsNameByTable(pattern);
    }

    /** Tells whether a rule proves its kind. */
    public boolean proves(int rule) throws IndexOutOfBoundsException {
        requireRule(rule);
        return byteSide.provesKind(rule);
    }

    /** Answers the kind by name, -1 if there is none. */
    public int byName() {
        return nameSide.kindOf(nameSide.firstFitting(tree, NONE));
    }

    /** Answers the kind by bytes, -1 if there is none. */
    public int byBytes() {
        return byteSide.kindOf(byteSide.provingRule());
    }

    /** Answers the guess: a kind, or -1 for an unknown text, or -2 for other unknown bytes. */
    public int guess() {
        int rule = byteSide.provingRule();
        int anyFitting = nameSide.firstFitting(tree, NONE);
        if (rule != NONE) {
            return guessWithBytes(rule, anyFitting);
        }
        if (anyFitting != NONE) {
            return nameSide.kindOf(anyFitting);
        }
        return byteSide.isText() ? TEXT : NO_TEXT;
    }

    private int guessWithBytes(int rule, int anyFitting) {
        int kindByBytes = byteSide.kindOf(rule);
        int moreSpecial = nameSide.firstFitting(tree, kindByBytes);
        if (moreSpecial != NONE) {
            return nameSide.kindOf(moreSpecial);
        }
        if (anyFitting == NONE || byteSide.isStrong(rule)) {
            return kindByBytes;
        }
        return nameSide.kindOf(anyFitting);
    }

    // ---- programs

    /** Sets how a program stands for a kind in a list; answers how it stood before. */
    public int program(int list, int kind, int program, int stands)
            throws IndexOutOfBoundsException, IllegalArgumentException {
        requireKind(kind);
        requireRange(list, 0, LISTS - 1);
        requireRange(program, 0, PROGRAMS - 1);
        requireRange(stands, 0, REMOVED);
        return programLists.setStanding(list, kind, program, stands);
    }

    /** Sets the default of a list for a kind, -1 for none; answers the one before. */
    public int setDefault(int list, int kind, int program)
            throws IndexOutOfBoundsException, IllegalArgumentException {
        requireKind(kind);
        requireRange(list, 0, LISTS - 1);
        requireRange(program, NONE, PROGRAMS - 1);
        return programLists.setDefaultOf(list, kind, program);
    }

    /** Answers how many programs a kind has. */
    public int programs(int kind) throws IndexOutOfBoundsException {
        requireKind(kind);
        return programLists.countPrograms(tree, kind);
    }

    /** Answers a program of a kind, in their order. */
    public int programAt(int kind, int place) throws IndexOutOfBoundsException {
        requireKind(kind);
        int found = programLists.programInOrder(tree, kind, place);
        if (found == NONE) {
            throw new IndexOutOfBoundsException("no such place");
        }
        return found;
    }

    /** Answers the default of a kind, -1 if there is none. */
    public int opener(int kind) throws IndexOutOfBoundsException {
        requireKind(kind);
        return programLists.defaultUpward(tree, kind);
    }

    // ---- arguments

    private void requireKind(int kind) {
        if (!tree.has(kind)) {
            throw new IndexOutOfBoundsException("no such kind");
        }
    }

    private void requirePattern(int pattern) {
        if (!nameSide.hasPattern(pattern)) {
            throw new IndexOutOfBoundsException("no such pattern");
        }
    }

    private void requireRule(int rule) {
        if (!byteSide.hasRule(rule)) {
            throw new IndexOutOfBoundsException("no such rule");
        }
    }

    private static void requireRange(int value, int least, int greatest) {
        requireArgument(value >= least && value <= greatest);
    }

    private static void requireArgument(boolean inRange) {
        if (!inRange) {
            throw new IllegalArgumentException("out of range");
        }
    }

    private static int tokenAt(int place, int first, int second) {
        int digits = place < TOKENS_OF_ONE_NUMBER ? first : second;
        int skipped = place < TOKENS_OF_ONE_NUMBER ? place : place - TOKENS_OF_ONE_NUMBER;
        for (int step = 0; step < skipped; step++) {
            digits /= DIGITS_OF_ONE_TOKEN;
        }
        return digits % DIGITS_OF_ONE_TOKEN;
    }

    /** The kinds, each with its parent. */
    private static final class KindTree {
        private final int[] parents = new int[MOST_KINDS];
        private int count = 0;

        int size() {
            return count;
        }

        boolean has(int kind) {
            return kind >= 0 && kind < count;
        }

        boolean isFull() {
            return count >= MOST_KINDS;
        }

        int add(int parent) {
            parents[count] = parent;
            count++;
            return count - 1;
        }

        int parentOf(int kind) {
            return has(kind) ? parents[kind] : NONE;
        }

        boolean leadsUp(int kind, int other) {
            int up = kind;
            for (int step = 0; step < MOST_KINDS && up != NONE; step++) {
                if (up == other) {
                    return true;
                }
                up = parentOf(up);
            }
            return false;
        }
    }

    /** The name of the file, and the patterns of names. */
    private static final class NameSide {
        private static final int COLUMNS = MOST_LETTERS + 1;

        private final int[] letters = new int[MOST_LETTERS];
        private int letterCount = 0;

        private final int[] kindsOfPatterns = new int[MOST_PATTERNS];
        private final int[] weights = new int[MOST_PATTERNS];
        private final int[] lengths = new int[MOST_PATTERNS];
        private final boolean[] there = new boolean[MOST_PATTERNS];
        private final int[] tokenRows = new int[MOST_PATTERNS * MOST_TOKENS];
        private int patternCount = 0;
        private int thereCount = 0;

        private final boolean[] table = new boolean[(MOST_TOKENS + 1) * COLUMNS];

        boolean isFullOfLetters() {
            return letterCount >= MOST_LETTERS;
        }

        int addLetter(int letter) {
            letters[letterCount] = letter;
            letterCount++;
            return letterCount;
        }

        int clearName() {
            int before = letterCount;
            letterCount = 0;
            return before;
        }

        boolean hasPattern(int pattern) {
            return pattern >= 0 && pattern < patternCount && there[pattern];
        }

        boolean isFullOfPatterns() {
            return patternCount >= MOST_PATTERNS;
        }

        /** Writes a token of the pattern that is added next. */
        void writeToken(int place, int token) {
            tokenRows[patternCount * MOST_TOKENS + place] = token;
        }

        int addPattern(int kind, int weight, int length) {
            int pattern = patternCount;
            kindsOfPatterns[pattern] = kind;
            weights[pattern] = weight;
            lengths[pattern] = length;
            there[pattern] = true;
            patternCount++;
            thereCount++;
            return pattern;
        }

        int dropPattern(int pattern) {
            there[pattern] = false;
            thereCount--;
            return thereCount;
        }

        int kindOf(int pattern) {
            return hasPattern(pattern) ? kindsOfPatterns[pattern] : NONE;
        }

        /** Answers the first pattern that fits and belongs to a special one of a kind, or, with NONE, to any kind. */
        int firstFitting(KindTree tree, int general) {
            int first = NONE;
            for (int pattern = 0; pattern < patternCount; pattern++) {
                boolean ahead = there[pattern] && (first == NONE || isAhead(pattern, first));
                if (ahead && isOf(tree, pattern, general) && fitsName(pattern)) {
                    first = pattern;
                }
            }
            return first;
        }

        private boolean isOf(KindTree tree, int pattern, int general) {
            return general == NONE || tree.leadsUp(kindsOfPatterns[pattern], general);
        }

        /** Tells whether a pattern comes ahead of one that has a lower number. */
        private boolean isAhead(int pattern, int lower) {
            if (weights[pattern] != weights[lower]) {
                return weights[pattern] > weights[lower];
            }
            return lengths[pattern] > lengths[lower];
        }

        /** Goes through the tokens with all beginnings of the name for which those so far stand, a bit for each. */
        boolean fitsName(int pattern) {
            int row = pattern * MOST_TOKENS;
            int reached = 1;
            for (int place = 0; place < lengths[pattern]; place++) {
                reached = reachedAfter(tokenRows[row + place], reached);
            }
            return isReached(reached, letterCount);
        }

        private int reachedAfter(int token, int reached) {
            int after = token == ANY_ROW ? reached : 0;
            for (int place = 0; place < letterCount; place++) {
                boolean goesOn = token == ANY_ROW
                        ? isReached(after, place)
                        : isReached(reached, place) && standsFor(token, place);
                if (goesOn) {
                    after |= 1 << (place + 1);
                }
            }
            return after;
        }

        private static boolean isReached(int reached, int place) {
            return ((reached >> place) & 1) == 1;
        }

        private boolean standsFor(int token, int place) {
            return token == ANY_LETTER || token == letters[place];
        }

        /** The first line, that of no tokens, stands for the empty beginning alone: the rest of it stays false. */
        boolean fitsNameByTable(int pattern) {
            int length = lengths[pattern];
            table[0] = true;
            for (int line = 1; line <= length; line++) {
                fillLine(line, tokenRows[pattern * MOST_TOKENS + line - 1]);
            }
            return table[length * COLUMNS + letterCount];
        }

        /** Fills the line for the beginnings that end with this token, out of the line ahead of it. */
        private void fillLine(int line, int token) {
            int here = line * COLUMNS;
            int ahead = here - COLUMNS;
            table[here] = token == ANY_ROW && table[ahead];
            for (int column = 1; column <= letterCount; column++) {
                table[here + column] = token == ANY_ROW
                        ? table[ahead + column] || table[here + column - 1]
                        : table[ahead + column - 1] && standsFor(token, column - 1);
            }
        }
    }

    /** The bytes of the file, and the rules with their tests; the tests of a rule stand in a row of six places. */
    private static final class ByteSide {
        private final int[] values = new int[MOST_BYTES];
        private int byteCount = 0;

        private final int[] kindsOfRules = new int[MOST_RULES];
        private final int[] priorities = new int[MOST_RULES];
        private final int[] testCounts = new int[MOST_RULES];
        private int ruleCount = 0;

        private final int[] levels = new int[MOST_RULES * MOST_TESTS];
        private final int[] froms = new int[MOST_RULES * MOST_TESTS];
        private final int[] tos = new int[MOST_RULES * MOST_TESTS];
        private final int[] wanted = new int[MOST_RULES * MOST_TESTS];
        private final int[] masks = new int[MOST_RULES * MOST_TESTS];
        private final boolean[] leads = new boolean[MOST_RULES * MOST_TESTS];

        boolean isFullOfBytes() {
            return byteCount >= MOST_BYTES;
        }

        int addByte(int value) {
            values[byteCount] = value;
            byteCount++;
            return byteCount;
        }

        int clearBytes() {
            int before = byteCount;
            byteCount = 0;
            return before;
        }

        boolean isText() {
            for (int place = 0; place < byteCount; place++) {
                if (!isTextByte(values[place])) {
                    return false;
                }
            }
            return true;
        }

        private static boolean isTextByte(int value) {
            return (value >= 32 && value <= 126) || value == 9 || value == 10 || value == 13;
        }

        boolean hasRule(int rule) {
            return rule >= 0 && rule < ruleCount;
        }

        boolean isFullOfRules() {
            return ruleCount >= MOST_RULES;
        }

        int addRule(int kind, int priority) {
            kindsOfRules[ruleCount] = kind;
            priorities[ruleCount] = priority;
            ruleCount++;
            return ruleCount - 1;
        }

        int greatestNextLevel(int rule) {
            int count = testCounts[rule];
            return count == 0 ? 0 : levels[rule * MOST_TESTS + count - 1] + 1;
        }

        boolean isFullOfTests(int rule) {
            return testCounts[rule] >= MOST_TESTS;
        }

        int addTest(int rule, int level, int from, int to, int value, int mask) {
            int test = rule * MOST_TESTS + testCounts[rule];
            levels[test] = level;
            froms[test] = from;
            tos[test] = to;
            wanted[test] = value;
            masks[test] = mask;
            testCounts[rule]++;
            return testCounts[rule];
        }

        int kindOf(int rule) {
            return hasRule(rule) ? kindsOfRules[rule] : NONE;
        }

        boolean isStrong(int rule) {
            return hasRule(rule) && priorities[rule] >= STRONG_PRIORITY;
        }

        int provingRule() {
            int best = NONE;
            for (int rule = 0; rule < ruleCount; rule++) {
                boolean ahead = best == NONE || priorities[rule] > priorities[best];
                if (ahead && provesKind(rule)) {
                    best = rule;
                }
            }
            return best;
        }

        /** Goes from the last test to the first one, since a test leads or not by those below it, which come later. */
        boolean provesKind(int rule) {
            int first = rule * MOST_TESTS;
            int end = first + testCounts[rule];
            boolean proved = false;
            for (int test = end - 1; test >= first; test--) {
                leads[test] = holds(test) && leadsBelow(test, end);
                proved = proved || (leads[test] && levels[test] == 0);
            }
            return proved;
        }

        private boolean holds(int test) {
            for (int place = froms[test]; place <= tos[test] && place < byteCount; place++) {
                if ((values[place] & masks[test]) == wanted[test]) {
                    return true;
                }
            }
            return false;
        }

        /** Tells whether no test is below this one, or some test below it leads. */
        private boolean leadsBelow(int test, int end) {
            int levelBelow = levels[test] + 1;
            boolean noneBelow = true;
            for (int later = test + 1; later < end && levels[later] >= levelBelow; later++) {
                if (levels[later] == levelBelow) {
                    if (leads[later]) {
                        return true;
                    }
                    noneBelow = false;
                }
            }
            return noneBelow;
        }
    }

    /** How programs stand for kinds in the three lists, and the defaults of these. */
    private static final class ProgramLists {
        private final int[] standings = new int[LISTS * MOST_KINDS * PROGRAMS];
        private final int[] defaults = new int[LISTS * MOST_KINDS];

        ProgramLists() {
            Arrays.fill(defaults, NONE);
        }

        int setStanding(int list, int kind, int program, int stands) {
            int place = placeOf(list, kind) * PROGRAMS + program;
            int before = standings[place];
            standings[place] = stands;
            return before;
        }

        int setDefaultOf(int list, int kind, int program) {
            int place = placeOf(list, kind);
            int before = defaults[place];
            defaults[place] = program;
            return before;
        }

        private static int placeOf(int list, int kind) {
            return list * MOST_KINDS + kind;
        }

        /** The list that counts most of those that name the program at all decides alone. */
        private boolean opens(int program, int kind) {
            for (int list = 0; list < LISTS; list++) {
                int stands = standings[placeOf(list, kind) * PROGRAMS + program];
                if (stands != 0) {
                    return stands == ADDED;
                }
            }
            return false;
        }

        /** Answers the programs that open the kind itself, a bit for each. */
        private int openersOf(int kind) {
            int openers = 0;
            for (int program = 0; program < PROGRAMS; program++) {
                if (opens(program, kind)) {
                    openers |= 1 << program;
                }
            }
            return openers;
        }

        int countPrograms(KindTree tree, int kind) {
            int seen = 0;
            int up = kind;
            for (int step = 0; step < MOST_KINDS && up != NONE; step++) {
                seen |= openersOf(up);
                up = tree.parentOf(up);
            }
            return Integer.bitCount(seen);
        }

        /** Answers NONE if the kind has no program at this place. */
        int programInOrder(KindTree tree, int kind, int place) {
            if (place < 0) {
                return NONE;
            }
            int seen = 0;
            int up = kind;
            for (int step = 0; step < MOST_KINDS && up != NONE; step++) {
                int unseen = openersOf(up) & ~seen;
                int ahead = Integer.bitCount(seen);
                if (place - ahead < Integer.bitCount(unseen)) {
                    return programOf(unseen, place - ahead);
                }
                seen |= unseen;
                up = tree.parentOf(up);
            }
            return NONE;
        }

        private static int programOf(int openers, int place) {
            int left = place;
            for (int program = 0; program < PROGRAMS; program++) {
                if (((openers >> program) & 1) == 1) {
                    if (left == 0) {
                        return program;
                    }
                    left--;
                }
            }
            return NONE;
        }

        int defaultUpward(KindTree tree, int kind) {
            int up = kind;
            for (int step = 0; step < MOST_KINDS && up != NONE; step++) {
                int own = defaultOf(up);
                if (own != NONE) {
                    return own;
                }
                up = tree.parentOf(up);
            }
            return NONE;
        }

        private int defaultOf(int kind) {
            for (int list = 0; list < LISTS; list++) {
                int program = defaults[placeOf(list, kind)];
                if (program != NONE && opens(program, kind)) {
                    return program;
                }
            }
            return NONE;
        }
    }
}
