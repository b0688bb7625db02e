import java.util.Arrays;

/** The boundary cases of the promises 5, 6, 14 and 16, sentence by sentence: rule, test, proves, byBytes. */
public final class RuleEdgesTest {
    private static final Checks CHECKS = new Checks();

    public static void main(String[] args) {
        belongsToAKind();
        beginsWithoutTests();
        takesPrioritiesFrom0To100();
        numbersRules();
        refusesNoSuchKind();
        refusesOtherPriorities();
        refusesTheThirteenthRule();
        throwsTheFirstThatFitsARule();
        takesLevel0First();
        takesLevelsUpToOneMore();
        takesSpansFrom0To15();
        takesValuesFrom0To255();
        takesMasksFrom0To255();
        countsTests();
        refusesNoSuchRule();
        refusesOtherLevels();
        refusesOtherPlaces();
        refusesOtherValuesAndMasks();
        refusesTheSeventhTest();
        throwsTheFirstThatFitsATest();
        looksAtTheWholeSpan();
        looksAsFarAsThereAreBytes();
        comparesTheValueAsItIsTold();
        leadsWithoutTestsBelow();
        leadsByOneBelow();
        provesByLevel0();
        refusesToProveNoRule();
        answersNoKindByBytes();
        takesTheGreatestPriority();
        takesTheLowestNumber();
        CHECKS.close();
    }

    private static KindGuesser oneRule() {
        KindGuesser x = States.withKinds(1);
        x.rule(0, 50);
        return x;
    }

    /** A rule with so many tests, each one level below the one before. */
    private static KindGuesser chain(int tests) {
        KindGuesser x = oneRule();
        for (int test = 0; test < tests; test++) {
            x.test(0, test, 0, 0, 0, 0);
        }
        return x;
    }

    private static void belongsToAKind() {
        CHECKS.about("5: of a kind, the first or the last one");
        for (int kind = 0; kind < 14; kind++) {
            KindGuesser x = States.withKinds(14);
            CHECKS.same("rule of " + kind, 0, x.rule(kind, 0));
            x.test(0, 0, 0, 0, 0, 0);
            x.put(0);
            CHECKS.same("byBytes of " + kind, kind, x.byBytes());
        }
    }

    private static void beginsWithoutTests() {
        CHECKS.about("5: adds a rule without tests");
        for (int bytes = 0; bytes <= 16; bytes++) {
            KindGuesser x = oneRule();
            Written.bytes(x, Arrays.copyOf(States.BYTES, bytes));
            CHECKS.same("proves of " + bytes + " bytes", false, x.proves(0));
            CHECKS.same("byBytes of " + bytes + " bytes", -1, x.byBytes());
            CHECKS.same("its first test", 1, x.test(0, 0, 0, 0, 0, 0));
        }
        KindGuesser x = States.lessThanFull(1);
        CHECKS.same("a rule after others with tests", 11, x.rule(0, 100));
        CHECKS.same("proves", false, x.proves(11));
        CHECKS.same("its first test", 1, x.test(11, 0, 0, 0, 0, 0));
        CHECKS.same("proves then", true, x.proves(11));
    }

    private static void takesPrioritiesFrom0To100() {
        CHECKS.about("5: priority: 0 to 100");
        KindGuesser x = States.withKinds(14);
        x.put(0);
        int[] priorities = {0, 1, 99, 100};
        for (int rule = 0; rule < 4; rule++) {
            CHECKS.same("rule of " + priorities[rule], rule, x.rule(rule, priorities[rule]));
            x.test(rule, 0, 0, 0, 0, 255);
            CHECKS.same("byBytes with " + priorities[rule], rule, x.byBytes());
        }
    }

    private static void numbersRules() {
        CHECKS.about("5: returns its number; rules are numbered from 0 as they are added");
        KindGuesser x = States.withKinds(1);
        for (int rule = 0; rule < 12; rule++) {
            CHECKS.same("rule", rule, x.rule(0, 100 - rule));
        }
    }

    private static void refusesNoSuchKind() {
        CHECKS.about("5: IndexOutOfBoundsException if there is no such kind");
        for (int kind : States.outside(0, 1)) {
            CHECKS.outOfBounds("rule of " + kind, States::small, x -> x.rule(kind, 50));
        }
        for (int kind : States.outside(0, 12)) {
            CHECKS.outOfBounds("rule of " + kind, () -> States.lessThanFull(1), x -> x.rule(kind, 0));
        }
    }

    private static void refusesOtherPriorities() {
        CHECKS.about("5: IllegalArgumentException if priority is out of range");
        for (int priority : States.outside(0, 100)) {
            CHECKS.badArgument("rule of " + priority, States::small, x -> x.rule(1, priority));
        }
    }

    private static void refusesTheThirteenthRule() {
        CHECKS.about("5: IllegalStateException if there are 12 rules");
        CHECKS.taken("the 12th", 11, () -> States.lessThanFull(1), x -> x.rule(12, 100));
        CHECKS.badState("the 13th", States::full, x -> x.rule(13, 100));
        CHECKS.badState("the 13th of the first kind", States::full, x -> x.rule(0, 0));
        CHECKS.badState("the 13th where none has tests", () -> {
            KindGuesser x = States.withKinds(1);
            for (int rule = 0; rule < 12; rule++) {
                x.rule(0, 0);
            }
            return x;
        }, x -> x.rule(0, 0));
    }

    private static void throwsTheFirstThatFitsARule() {
        CHECKS.about("5: of several exceptions it is the first one of the throws clause");
        for (int kind : States.outside(0, 13)) {
            CHECKS.outOfBounds("no kind, full", States::full, x -> x.rule(kind, 0));
            CHECKS.outOfBounds("no kind, no priority", States::small, x -> x.rule(kind, 101));
            CHECKS.outOfBounds("no kind, no priority, full", States::full, x -> x.rule(kind, -1));
        }
        for (int priority : States.outside(0, 100)) {
            CHECKS.badArgument("no priority, full", States::full, x -> x.rule(13, priority));
        }
    }

    private static void takesLevel0First() {
        CHECKS.about("6: level: 0 for the first one of the rule");
        CHECKS.taken("the level 0", 1, RuleEdgesTest::oneRule, x -> x.test(0, 0, 0, 0, 0, 0));
        for (int level : States.outside(0, 0)) {
            CHECKS.badArgument("the level " + level, RuleEdgesTest::oneRule, x -> x.test(0, level, 0, 0, 0, 0));
            CHECKS.badArgument("the level " + level + " behind another rule", () -> {
                KindGuesser x = chain(6);
                x.rule(0, 0);
                return x;
            }, x -> x.test(1, level, 0, 0, 0, 0));
        }
    }

    private static void takesLevelsUpToOneMore() {
        CHECKS.about("6: level: otherwise 0 to 1 more than the one before");
        for (int tests = 1; tests < 6; tests++) {
            int count = tests;
            for (int level = 0; level <= count; level++) {
                int l = level;
                CHECKS.taken("the level " + l + " after " + (count - 1), count + 1, () -> chain(count),
                        x -> x.test(0, l, 0, 0, 0, 0));
            }
        }
        for (int before = 0; before < 4; before++) {
            for (int level = 0; level <= 6; level++) {
                KindGuesser x = chain(4);
                x.test(0, before, 0, 0, 0, 0);
                int l = level;
                CHECKS.same("the level " + level + " after 3 and " + before,
                        level <= before + 1 ? "6" : "throws.IllegalArgumentException",
                        Checks.answerOf(() -> x.test(0, l, 0, 0, 0, 0)));
            }
        }
    }

    private static void takesSpansFrom0To15() {
        CHECKS.about("6: from: the first place, 0 to 15; to: the last place, from to 15");
        for (int from = 0; from <= 15; from++) {
            for (int to = -1; to <= 16; to++) {
                int f = from;
                int t = to;
                boolean due = to >= from && to <= 15;
                CHECKS.taken("from " + from + " to " + to, due ? "1" : "throws.IllegalArgumentException",
                        RuleEdgesTest::oneRule, x -> x.test(0, 0, f, t, 0, 0));
            }
        }
    }

    private static void takesValuesFrom0To255() {
        CHECKS.about("6: value: 0 to 255");
        for (int value = 0; value <= 255; value++) {
            KindGuesser x = oneRule();
            CHECKS.same("test of " + value, 1, x.test(0, 0, 0, 0, value, 255));
            x.put(value);
            CHECKS.same("it holds at " + value, true, x.proves(0));
            x.empty();
            x.put(value ^ 128);
            CHECKS.same("it holds at another one", false, x.proves(0));
        }
    }

    private static void takesMasksFrom0To255() {
        CHECKS.about("6: mask: 0 to 255");
        for (int mask = 0; mask <= 255; mask++) {
            KindGuesser x = oneRule();
            CHECKS.same("test with " + mask, 1, x.test(0, 0, 0, 0, mask, mask));
            for (int value : new int[] {mask, 255}) {
                x.empty();
                x.put(value);
                CHECKS.same("it holds at " + value + " with " + mask, true, x.proves(0));
            }
            x.empty();
            x.put(255 - mask);
            CHECKS.same("it holds at the other bits alone", mask == 0, x.proves(0));
        }
    }

    private static void countsTests() {
        CHECKS.about("6: returns how many tests it has then");
        KindGuesser x = States.withKinds(1);
        for (int rule = 0; rule < 12; rule++) {
            x.rule(0, 0);
        }
        for (int count = 1; count <= 6; count++) {
            for (int rule = 11; rule >= 0; rule--) {
                CHECKS.same("test of " + rule, count, x.test(rule, rule % 2 == 0 ? 0 : count - 1, 0, 15, 0, 0));
            }
        }
    }

    private static void refusesNoSuchRule() {
        CHECKS.about("6: IndexOutOfBoundsException if there is no such rule");
        CHECKS.outOfBounds("test of none", () -> States.withKinds(14), x -> x.test(0, 0, 0, 0, 0, 0));
        for (int rule : States.outside(0, 1)) {
            CHECKS.outOfBounds("test of " + rule, States::small, x -> x.test(rule, 0, 0, 0, 0, 0));
        }
        for (int rule : States.outside(0, 11)) {
            CHECKS.outOfBounds("test of " + rule, States::full, x -> x.test(rule, 0, 0, 0, 0, 0));
        }
        CHECKS.outOfBounds("the 12th, not yet added", () -> States.lessThanFull(1), x -> x.test(11, 0, 0, 0, 0, 0));
    }

    private static void refusesOtherLevels() {
        CHECKS.about("6: IllegalArgumentException if level is out of range");
        for (int tests = 1; tests < 6; tests++) {
            int count = tests;
            for (int level : States.outside(0, count)) {
                CHECKS.badArgument("the level " + level + " after " + (count - 1), () -> chain(count),
                        x -> x.test(0, level, 0, 0, 0, 0));
            }
        }
        CHECKS.badArgument("the level 2 after 1 and 0", () -> {
            KindGuesser x = chain(2);
            x.test(0, 0, 0, 0, 0, 0);
            return x;
        }, x -> x.test(0, 2, 0, 0, 0, 0));
    }

    private static void refusesOtherPlaces() {
        CHECKS.about("6: IllegalArgumentException if from or to is out of range");
        for (int place : States.outside(0, 15)) {
            CHECKS.badArgument("from " + place, States::small, x -> x.test(1, 0, place, 15, 80, 255));
            CHECKS.badArgument("to " + place, States::small, x -> x.test(1, 0, 0, place, 80, 255));
            CHECKS.badArgument("to " + place + " from 15", States::small, x -> x.test(1, 0, 15, place, 80, 255));
            CHECKS.badArgument("both " + place, States::small, x -> x.test(1, 0, place, place, 80, 255));
        }
        for (int from = 1; from <= 15; from++) {
            int f = from;
            CHECKS.badArgument("to one ahead of " + f, States::small, x -> x.test(1, 0, f, f - 1, 80, 255));
        }
        CHECKS.badArgument("from 15 to 0", States::small, x -> x.test(1, 0, 15, 0, 80, 255));
    }

    private static void refusesOtherValuesAndMasks() {
        CHECKS.about("6: IllegalArgumentException if value or mask is out of range");
        for (int value : States.outside(0, 255)) {
            CHECKS.badArgument("value " + value, States::small, x -> x.test(1, 1, 0, 15, value, 255));
            CHECKS.badArgument("mask " + value, States::small, x -> x.test(1, 1, 0, 15, 0, value));
            CHECKS.badArgument("both " + value, States::small, x -> x.test(1, 1, 0, 15, value, value));
        }
    }

    private static void refusesTheSeventhTest() {
        CHECKS.about("6: IllegalStateException if it has 6");
        CHECKS.taken("the sixth", 6, () -> chain(5), x -> x.test(0, 5, 0, 0, 0, 0));
        for (int level = 0; level <= 6; level++) {
            int l = level;
            CHECKS.badState("the seventh at " + l, () -> chain(6), x -> x.test(0, l, 0, 0, 0, 0));
        }
        for (int rule = 0; rule < 12; rule++) {
            int r = rule;
            CHECKS.taken("the sixth of " + r, 6, () -> States.lessThanFull(1), x -> x.test(r % 11, 0, 0, 0, 0, 0));
            CHECKS.badState("the seventh of " + r, States::full, x -> x.test(r, 0, 0, 15, 0, 0));
            CHECKS.badState("the seventh of " + r + " at 0", States::full, x -> x.test(r, 0, 0, 0, 255, 255));
            CHECKS.badState("the seventh of " + r + " at 15", States::full, x -> x.test(r, 0, 15, 15, 255, 255));
        }
        CHECKS.taken("the first one of the next rule", 1, () -> {
            KindGuesser x = chain(6);
            x.rule(0, 0);
            return x;
        }, x -> x.test(1, 0, 0, 0, 0, 0));
    }

    private static void throwsTheFirstThatFitsATest() {
        CHECKS.about("6: of several exceptions it is the first one of the throws clause");
        for (int rule : States.outside(0, 11)) {
            CHECKS.outOfBounds("no rule, all wrong", States::full, x -> x.test(rule, 7, 16, -1, 256, 256));
            CHECKS.outOfBounds("no rule, no level", States::full, x -> x.test(rule, -1, 0, 0, 0, 0));
        }
        for (int level : States.outside(0, 6)) {
            CHECKS.badArgument("no level, full", () -> chain(6), x -> x.test(0, level, 0, 0, 0, 0));
        }
        CHECKS.badArgument("the level 2 after the sixth at 0, full", () -> {
            KindGuesser x = chain(5);
            x.test(0, 0, 0, 0, 0, 0);
            return x;
        }, x -> x.test(0, 2, 0, 0, 0, 0));
        CHECKS.badArgument("from -1, full", States::full, x -> x.test(0, 0, -1, 0, 0, 0));
        CHECKS.badArgument("from 16, full", States::full, x -> x.test(0, 0, 16, 16, 0, 0));
        CHECKS.badArgument("to 16, full", States::full, x -> x.test(0, 0, 0, 16, 0, 0));
        CHECKS.badArgument("to ahead of from, full", States::full, x -> x.test(0, 0, 1, 0, 0, 0));
        CHECKS.badArgument("value -1, full", States::full, x -> x.test(0, 0, 0, 0, -1, 0));
        CHECKS.badArgument("value 256, full", States::full, x -> x.test(0, 0, 0, 0, 256, 0));
        CHECKS.badArgument("mask -1, full", States::full, x -> x.test(0, 0, 0, 0, 0, -1));
        CHECKS.badArgument("mask 256, full", States::full, x -> x.test(0, 0, 0, 0, 0, 256));
    }

    private static void looksAtTheWholeSpan() {
        CHECKS.about("Terms: a span of places, from one to another one: it holds, if some byte of these does");
        for (int from = 0; from <= 15; from++) {
            for (int to = from; to <= 15; to++) {
                for (int place = 0; place <= 15; place++) {
                    KindGuesser x = oneRule();
                    x.test(0, 0, from, to, 7, 255);
                    for (int other = 0; other <= 15; other++) {
                        x.put(other == place ? 7 : 8);
                    }
                    CHECKS.same("from " + from + " to " + to + ", the byte at " + place,
                            from <= place && place <= to, x.proves(0));
                }
            }
        }
    }

    private static void looksAsFarAsThereAreBytes() {
        CHECKS.about("Terms: as far as there are bytes");
        for (int from = 0; from <= 15; from++) {
            KindGuesser any = oneRule();
            KindGuesser zero = oneRule();
            any.test(0, 0, from, 15, 0, 0);
            zero.test(0, 0, from, 15, 0, 255);
            for (int bytes = 0; bytes <= 16; bytes++) {
                CHECKS.same("from " + from + ", any of " + bytes, bytes > from, any.proves(0));
                CHECKS.same("from " + from + ", a 0 of " + bytes, bytes > from, zero.proves(0));
                if (bytes < 16) {
                    any.put(255);
                    zero.put(0);
                }
            }
        }
    }

    private static void hold(boolean due, int value, int mask, int put) {
        KindGuesser x = oneRule();
        x.test(0, 0, 0, 0, value, mask);
        x.put(put);
        CHECKS.same(put + " with " + mask + " is " + value, due, x.proves(0));
    }

    private static void comparesTheValueAsItIsTold() {
        CHECKS.about("Terms: with the mask bit by bit, is the value as it is told");
        hold(true, 0, 0, 0);
        hold(true, 0, 0, 255);
        hold(false, 1, 0, 1);
        hold(false, 255, 0, 255);
        hold(true, 255, 255, 255);
        hold(false, 255, 254, 255);
        hold(false, 255, 127, 255);
        hold(true, 128, 128, 255);
        hold(true, 127, 127, 255);
        hold(true, 254, 254, 255);
        hold(false, 129, 128, 129);
        for (int step = 0; step < 4096; step++) {
            int value = step % 16 * 17;
            int mask = step / 16 % 16 * 17;
            int put = step / 256 * 17;
            hold((put & mask) == value, value, mask, put);
        }
    }

    /** Tests that hold or not, + or -, at these levels. */
    private static void prove(boolean due, String levels, String signs) {
        KindGuesser x = oneRule();
        x.put(1);
        for (int test = 0; test < levels.length(); test++) {
            x.test(0, levels.charAt(test) - '0', 0, 0, signs.charAt(test) == '+' ? 1 : 0, 255);
        }
        CHECKS.same("levels " + levels + ", holding " + signs, due, x.proves(0));
        CHECKS.same("byBytes of them", due ? 0 : -1, x.byBytes());
    }

    private static void leadsWithoutTestsBelow() {
        CHECKS.about("Terms: a test leads, if it holds, and no test is below it");
        prove(true, "0", "+");
        prove(false, "0", "-");
        prove(true, "00", "-+");
        prove(true, "001", "+--");
        prove(false, "001", "-+-");
        prove(true, "010", "--+");
        prove(true, "000000", "-----+");
        prove(true, "000000", "+-----");
        prove(false, "000000", "------");
    }

    private static void leadsByOneBelow() {
        CHECKS.about("Terms: or some test below it leads; it is below the last one ahead of it with a lower level");
        prove(true, "01", "++");
        prove(false, "01", "+-");
        prove(false, "01", "-+");
        prove(true, "011", "+-+");
        prove(true, "011", "++-");
        prove(false, "011", "+--");
        prove(true, "011111", "+----+");
        prove(true, "011111", "++----");
        prove(false, "011111", "+-----");
        prove(true, "012345", "++++++");
        prove(false, "012345", "+++++-");
        prove(false, "012345", "-+++++");
        prove(false, "012345", "++-+++");
        prove(false, "0121", "+-+-");
        prove(true, "0121", "++-+");
        prove(false, "0121", "++--");
        prove(false, "01212", "++-+-");
        prove(true, "01212", "++-++");
        prove(false, "0101", "+--+");
        prove(true, "012301", "++++--");
        prove(false, "012301", "+++-+-");
        prove(true, "012301", "+++-++");
    }

    private static void provesByLevel0() {
        CHECKS.about("Terms: a rule proves its kind, if some test of the level 0 leads");
        prove(false, "", "");
        prove(false, "01", "-+");
        prove(false, "012345", "-+++++");
        prove(true, "01230", "-+++" + "+");
        prove(true, "012300", "----" + "-+");
        prove(true, "001234", "+-----");
    }

    private static void refusesToProveNoRule() {
        CHECKS.about("14: IndexOutOfBoundsException if there is no such rule");
        CHECKS.outOfBounds("proves of none", () -> States.withKinds(14), x -> x.proves(0));
        for (int rule : States.outside(0, 1)) {
            CHECKS.outOfBounds("proves " + rule, States::small, x -> x.proves(rule));
        }
        for (int rule : States.outside(0, 11)) {
            CHECKS.outOfBounds("proves " + rule, States::full, x -> x.proves(rule));
        }
        CHECKS.outOfBounds("the 12th, not yet added", () -> States.lessThanFull(1), x -> x.proves(11));
        CHECKS.taken("the 12th of 12", "false", () -> {
            KindGuesser x = States.lessThanFull(1);
            x.rule(0, 0);
            return x;
        }, x -> x.proves(11));
    }

    private static void answersNoKindByBytes() {
        CHECKS.about("Terms: the kind by bytes, -1 if there is none");
        KindGuesser x = new KindGuesser();
        CHECKS.same("without kinds", -1, x.byBytes());
        x.put(1);
        x.kind(-1);
        CHECKS.same("without rules", -1, x.byBytes());
        x.rule(0, 100);
        CHECKS.same("with one that has no tests", -1, x.byBytes());
        x.test(0, 0, 0, 15, 2, 255);
        CHECKS.same("with one that proves nothing", -1, x.byBytes());
        x.put(2);
        CHECKS.same("with one that proves its kind", 0, x.byBytes());
        x.empty();
        CHECKS.same("without bytes", -1, x.byBytes());
    }

    private static void choose(int due, int... priorities) {
        KindGuesser x = States.withKinds(14);
        x.put(1);
        for (int rule = 0; rule < priorities.length; rule++) {
            x.rule(13 - rule, Math.abs(priorities[rule]));
            x.test(rule, 0, 0, 0, priorities[rule] < 0 ? 2 : 1, 255);
        }
        CHECKS.same("byBytes with " + Arrays.toString(priorities), 13 - due, x.byBytes());
    }

    /** A negative priority stands for a rule that proves nothing. */
    private static void takesTheGreatestPriority() {
        CHECKS.about("16: that of the rule that proves its kind with the greatest priority");
        choose(1, 0, 1);
        choose(0, 1, 0);
        choose(1, 99, 100);
        choose(0, 100, 99);
        choose(1, 49, 50, 49);
        choose(1, -100, 0);
        choose(0, 0, -100);
        choose(11, 0, 1, 2, 3, 4, 5, 6, 7, 8, 9, 10, 11);
        choose(0, 11, 10, 9, 8, 7, 6, 5, 4, 3, 2, 1, 0);
        choose(10, 0, 1, 2, 3, 4, 5, 6, 7, 8, 9, 10, -11);
    }

    private static void takesTheLowestNumber() {
        CHECKS.about("16: of several the one with the lowest number");
        choose(0, 0, 0);
        choose(0, 100, 100);
        choose(1, 0, 5, 5);
        choose(1, -5, 5, 5);
        choose(0, 7, 7, 7, 7, 7, 7, 7, 7, 7, 7, 7, 7);
        choose(11, -7, -7, -7, -7, -7, -7, -7, -7, -7, -7, -7, 7);
        choose(10, -7, -7, -7, -7, -7, -7, -7, -7, -7, -7, 7, 7);
    }
}
