/** Promises 5, 6, 14 and 16: rule, test, proves, byBytes. */
public final class RulesTest {
    private static final Checks CHECKS = new Checks();

    public static void main(String[] args) {
        numbersRulesAndTests();
        holdsWithinItsSpan();
        holdsWithItsMask();
        leadsByThoseBelow();
        leadsInDeepTrees();
        keepsRulesApart();
        choosesByPriority();
        refusesWrongRules();
        refusesWrongTests();
        refusesWrongLevels();
        refusesTooMany();
        CHECKS.close();
    }

    private static KindGuesser oneRule() {
        KindGuesser x = new KindGuesser();
        x.kind(-1);
        x.rule(0, 100);
        return x;
    }

    private static KindGuesser twelveRules() {
        KindGuesser x = new KindGuesser();
        x.kind(-1);
        for (int rule = 0; rule < 12; rule++) {
            x.rule(0, rule);
        }
        return x;
    }

    private static KindGuesser sixTests() {
        KindGuesser x = oneRule();
        for (int test = 0; test < 6; test++) {
            x.test(0, test, test, 15, test, 255);
        }
        return x;
    }

    private static KindGuesser bytes(int... values) {
        KindGuesser x = oneRule();
        Written.bytes(x, values);
        return x;
    }

    private static void numbersRulesAndTests() {
        KindGuesser x = new KindGuesser();
        x.kind(-1);
        for (int rule = 0; rule < 12; rule++) {
            CHECKS.same("rule " + rule, rule, x.rule(0, rule % 2 == 0 ? 0 : 100));
            for (int test = 1; test <= 6; test++) {
                CHECKS.same("test " + test, test, x.test(rule, test - 1, 0, 15, 255, 255));
            }
        }
        for (int rule = 0; rule < 12; rule++) {
            CHECKS.same("rule " + rule + " without bytes", false, x.proves(rule));
        }
        x.put(255);
        for (int rule = 0; rule < 12; rule++) {
            CHECKS.same("rule " + rule + " of a 255", true, x.proves(rule));
        }
        CHECKS.same("a rule without tests proves nothing", false, bytes(1, 2, 3).proves(0));
        CHECKS.same("nor is there a kind by bytes", -1, bytes(1, 2, 3).byBytes());
    }

    private static void hold(boolean due, int from, int to, int value, int mask, int... values) {
        KindGuesser x = bytes(values);
        x.test(0, 0, from, to, value, mask);
        CHECKS.same("test " + from + " to " + to + " of " + value + " with " + mask, due, x.proves(0));
        CHECKS.same("byBytes by this test", due ? 0 : -1, x.byBytes());
    }

    private static void holdsWithinItsSpan() {
        hold(false, 0, 15, 0, 0);
        hold(false, 0, 15, 0, 255);
        hold(true, 0, 0, 7, 255, 7);
        hold(false, 0, 0, 7, 255, 8, 7);
        hold(true, 1, 1, 7, 255, 8, 7);
        hold(false, 1, 1, 7, 255, 7, 8);
        hold(true, 0, 3, 7, 255, 1, 2, 3, 7);
        hold(false, 0, 3, 7, 255, 1, 2, 3, 4, 7);
        hold(true, 2, 5, 7, 255, 1, 2, 7);
        hold(false, 3, 15, 7, 255, 7, 7, 7);
        hold(true, 3, 15, 7, 255, 1, 1, 1, 7);
        hold(true, 15, 15, 7, 255, 0, 1, 2, 3, 4, 5, 6, 0, 8, 9, 10, 11, 12, 13, 14, 7);
        hold(false, 0, 14, 7, 255, 0, 1, 2, 3, 4, 5, 6, 0, 8, 9, 10, 11, 12, 13, 14, 7);
        hold(true, 14, 15, 255, 255, 0, 1, 2, 3, 4, 5, 6, 7, 8, 9, 10, 11, 12, 13, 255);
    }

    private static void holdsWithItsMask() {
        hold(true, 0, 0, 0, 0, 200);
        hold(false, 0, 0, 1, 0, 1);
        hold(true, 0, 0, 2, 15, 18);
        hold(false, 0, 0, 18, 15, 18);
        hold(true, 0, 0, 16, 240, 31);
        hold(false, 0, 0, 16, 240, 47);
        hold(true, 0, 0, 128, 128, 255);
        hold(true, 0, 0, 255, 255, 255);
        hold(false, 0, 0, 255, 254, 255);
        hold(false, 0, 0, 4, 6, 6);
        hold(true, 0, 0, 0, 85, 170);
    }

    /** Makes a rule whose tests hold or not as the signs tell, + or -, at the levels, and says whether it proves. */
    private static boolean lead(String levels, String signs) {
        KindGuesser x = bytes(1);
        for (int test = 0; test < levels.length(); test++) {
            x.test(0, levels.charAt(test) - '0', 0, 0, signs.charAt(test) == '+' ? 1 : 2, 255);
        }
        return x.proves(0);
    }

    private static void checkLead(boolean due, String levels, String signs) {
        CHECKS.same("tests of levels " + levels + " that hold " + signs, due, lead(levels, signs));
    }

    private static void leadsByThoseBelow() {
        checkLead(true, "0", "+");
        checkLead(false, "0", "-");
        checkLead(true, "00", "-+");
        checkLead(true, "00", "+-");
        checkLead(false, "00", "--");
        checkLead(true, "01", "++");
        checkLead(false, "01", "+-");
        checkLead(false, "01", "-+");
        checkLead(true, "011", "++-");
        checkLead(true, "011", "+-+");
        checkLead(false, "011", "+--");
        checkLead(false, "011", "-++");
        checkLead(true, "010", "+-+");
        checkLead(false, "0101", "+--+");
        checkLead(true, "0101", "--++");
        checkLead(false, "0101", "+-+-");
        checkLead(false, "0101", "-++-");
    }

    private static void leadsInDeepTrees() {
        checkLead(true, "012345", "++++++");
        checkLead(false, "012345", "+++++-");
        checkLead(false, "012345", "-+++++");
        checkLead(false, "012345", "++-+++");
        checkLead(false, "0121", "++--");
        checkLead(true, "0121", "++-+");
        checkLead(true, "0121", "+++-");
        checkLead(false, "0121", "+-+-");
        checkLead(true, "01212", "+-+++");
        checkLead(false, "01212", "+-++-");
        checkLead(false, "01212", "++--+");
        checkLead(true, "012012", "++-+++");
        checkLead(false, "012012", "++-+-+");
        checkLead(true, "012210", "+++---");
        checkLead(true, "012221", "++--+-");
        checkLead(false, "012221", "+-+++-");
        checkLead(true, "012221", "+-+--+");
    }

    private static void keepsRulesApart() {
        KindGuesser x = oneRule();
        x.rule(0, 1);
        x.rule(0, 1);
        for (int test = 0; test < 6; test++) {
            x.test(1, test, 0, 0, 7, 255);
        }
        x.test(0, 0, 0, 0, 8, 255);
        x.test(2, 0, 0, 0, 9, 255);
        x.put(7);
        CHECKS.same("rule 0 of a 7", false, x.proves(0));
        CHECKS.same("rule 1 of a 7", true, x.proves(1));
        CHECKS.same("rule 2 of a 7", false, x.proves(2));
        x.empty();
        x.put(8);
        CHECKS.same("rule 0 of an 8", true, x.proves(0));
        CHECKS.same("rule 1 of an 8", false, x.proves(1));
        x.empty();
        x.put(9);
        CHECKS.same("rule 2 of a 9", true, x.proves(2));
        CHECKS.same("rule 0 of a 9", false, x.proves(0));
    }

    private static void choosesByPriority() {
        KindGuesser x = new KindGuesser();
        int[] priorities = {30, 30, 31, 0, 100, 31};
        for (int rule = 0; rule < 6; rule++) {
            x.kind(-1);
            x.rule(rule, priorities[rule]);
            x.test(rule, 0, 0, 15, rule, 255);
        }
        int[] puts = {3, 1, 0, 5, 2, 4};
        int[] due = {3, 1, 0, 5, 2, 4};
        CHECKS.same("byBytes without bytes", -1, x.byBytes());
        for (int step = 0; step < 6; step++) {
            x.put(puts[step]);
            CHECKS.same("byBytes after " + puts[step], due[step], x.byBytes());
        }
        x.empty();
        CHECKS.same("byBytes without bytes again", -1, x.byBytes());
    }

    private static void refusesWrongRules() {
        int[] noKinds = {-1, 1, 14, Integer.MIN_VALUE, Integer.MAX_VALUE};
        for (int kind : noKinds) {
            CHECKS.outOfBounds("rule of kind " + kind, RulesTest::oneRule, x -> x.rule(kind, 0));
            CHECKS.outOfBounds("kind ahead of all else", RulesTest::twelveRules, x -> x.rule(kind, 101));
        }
        int[] noPriorities = {-1, 101, Integer.MIN_VALUE, Integer.MAX_VALUE};
        for (int priority : noPriorities) {
            CHECKS.badArgument("priority " + priority, RulesTest::oneRule, x -> x.rule(0, priority));
            CHECKS.badArgument("priority ahead of full", RulesTest::twelveRules, x -> x.rule(0, priority));
        }
        int[] noRules = {-1, 1, 11, 12, Integer.MIN_VALUE, Integer.MAX_VALUE};
        for (int rule : noRules) {
            CHECKS.outOfBounds("proves " + rule, RulesTest::oneRule, x -> x.proves(rule));
            CHECKS.outOfBounds("test of rule " + rule, RulesTest::oneRule, x -> x.test(rule, 0, 0, 0, 0, 0));
            CHECKS.outOfBounds("rule ahead of all else", RulesTest::sixTests, x -> x.test(rule, -1, 16, -1, 256, 256));
        }
    }

    private static void refusesWrongTests() {
        int[][] wrong = {
            {-1, 0, 0, 0, 0}, {1, 0, 0, 0, 0}, {Integer.MAX_VALUE, 0, 0, 0, 0}, {Integer.MIN_VALUE, 0, 0, 0, 0},
            {0, -1, 0, 0, 0}, {0, 16, 16, 0, 0}, {0, 16, 15, 0, 0}, {0, Integer.MIN_VALUE, 0, 0, 0},
            {0, Integer.MAX_VALUE, Integer.MAX_VALUE, 0, 0},
            {0, 0, 16, 0, 0}, {0, 5, 4, 0, 0}, {0, 0, -1, 0, 0}, {0, 0, Integer.MAX_VALUE, 0, 0},
            {0, 0, 0, -1, 0}, {0, 0, 0, 256, 0}, {0, 0, 0, Integer.MIN_VALUE, 0}, {0, 0, 0, Integer.MAX_VALUE, 0},
            {0, 0, 0, 0, -1}, {0, 0, 0, 0, 256}, {0, 0, 0, 0, Integer.MIN_VALUE}, {0, 0, 0, 0, Integer.MAX_VALUE},
        };
        for (int[] w : wrong) {
            CHECKS.badArgument("test " + java.util.Arrays.toString(w), RulesTest::oneRule,
                    x -> x.test(0, w[0], w[1], w[2], w[3], w[4]));
            if (w[0] != 1) {
                CHECKS.badArgument("test ahead of full " + java.util.Arrays.toString(w), RulesTest::sixTests,
                        x -> x.test(0, w[0], w[1], w[2], w[3], w[4]));
            }
        }
    }

    private static void refusesWrongLevels() {
        for (int depth = 1; depth < 6; depth++) {
            int last = depth - 1;
            for (int level = -1; level <= 7; level++) {
                int l = level;
                KindGuesser x = oneRule();
                for (int test = 0; test < last + 1; test++) {
                    x.test(0, test, 0, 0, 0, 0);
                }
                Object due = level >= 0 && level <= depth ? "" + (depth + 1) : "throws.IllegalArgumentException";
                CHECKS.same("level " + level + " after " + last, due,
                        Checks.answerOf(() -> x.test(0, l, 0, 0, 0, 0)));
            }
        }
        KindGuesser x = oneRule();
        x.rule(0, 0);
        x.test(0, 0, 0, 0, 0, 0);
        x.test(0, 1, 0, 0, 0, 0);
        CHECKS.same("the first test of another rule has no level 1", "throws.IllegalArgumentException",
                Checks.answerOf(() -> x.test(1, 1, 0, 0, 0, 0)));
        CHECKS.same("but 0", 1, x.test(1, 0, 0, 0, 0, 0));
        CHECKS.same("the first rule goes on with 2", 3, x.test(0, 2, 0, 0, 0, 0));
        CHECKS.badArgument("level 7 after 6 tests", RulesTest::sixTests, y -> y.test(0, 7, 0, 0, 0, 0));
        CHECKS.badState("level 6 after 6 tests", RulesTest::sixTests, y -> y.test(0, 6, 0, 0, 0, 0));
    }

    private static void refusesTooMany() {
        CHECKS.badState("a 13th rule", RulesTest::twelveRules, x -> x.rule(0, 0));
        CHECKS.badState("a 7th test", RulesTest::sixTests, x -> x.test(0, 0, 0, 15, 255, 255));
    }
}
