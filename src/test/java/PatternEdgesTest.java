import java.util.ArrayList;
import java.util.List;

/** The boundary cases of the promises 3, 4, 12, 13 and 15, sentence by sentence: pattern, drop, fits, byName. */
public final class PatternEdgesTest {
    private static final Checks CHECKS = new Checks();
    private static final int GREATEST = Integer.MAX_VALUE;

    public static void main(String[] args) {
        belongsToAKind();
        takesWeightsFrom0To100();
        takes0To8Tokens();
        takesNumbersFrom0On();
        takesTokensFrom0To11();
        readsTwoDigitsForEachToken();
        readsNoDigitsBeyond();
        answersTheNumber();
        refusesNoSuchKind();
        refusesOtherWeights();
        refusesOtherCounts();
        refusesNegativeNumbers();
        refusesOtherTokens();
        refusesTheTwentyFirst();
        countsDroppedOnes();
        throwsTheFirstThatFits();
        dropsUntilNoneIsThere();
        refusesToDropWhatIsNotThere();
        standsForAnyRow();
        standsForAnyOneLetter();
        standsForTheLetterItself();
        fitsTheEmptyName();
        fitsTheFullName();
        fitsAsRegularExpressionsTell();
        refusesToFitWhatIsNotThere();
        answersNoKindByName();
        putsGreaterWeightsFirst();
        putsLongerOnesNext();
        putsLowerNumbersLast();
        CHECKS.close();
    }

    private static KindGuesser oneKind() {
        return States.withKinds(1);
    }

    private static KindGuesser named(String name) {
        KindGuesser x = States.line(14);
        Written.name(x, name);
        return x;
    }

    private static void fit(String pattern, String name, boolean due) {
        KindGuesser x = named(name);
        Written.pattern(x, 0, 0, pattern);
        CHECKS.same("'" + pattern + "' fits '" + name + "'", due, x.fits(0));
        CHECKS.same("'" + pattern + "' fits '" + name + "' by table", due, x.fitsByTable(0));
        CHECKS.same("'" + pattern + "' tells the kind of '" + name + "'", due ? 0 : -1, x.byName());
    }

    private static void belongsToAKind() {
        CHECKS.about("3: of a kind, the first or the last one");
        for (int kind = 0; kind < 14; kind++) {
            KindGuesser x = named("");
            CHECKS.same("pattern of " + kind, 0, x.pattern(kind, 0, 0, 0, 0));
            CHECKS.same("byName of " + kind, kind, x.byName());
        }
    }

    private static void takesWeightsFrom0To100() {
        CHECKS.about("3: weight: 0 to 100");
        KindGuesser x = named("");
        for (int weight : new int[] {0, 1, 99, 100}) {
            CHECKS.taken("weight " + weight, 0, PatternEdgesTest::oneKind, y -> y.pattern(0, weight, 0, 0, 0));
            x.pattern(weight % 14, weight, 0, 0, 0);
            CHECKS.same("byName with the weight " + weight, weight % 14, x.byName());
        }
    }

    private static void takes0To8Tokens() {
        CHECKS.about("3: tokens: how many tokens it has, 0 to 8");
        String letters = "";
        for (int tokens = 0; tokens <= 8; tokens++) {
            int count = tokens;
            CHECKS.taken(count + " tokens", 0, PatternEdgesTest::oneKind, x -> x.pattern(0, 0, count, 0, 0));
            KindGuesser x = named(letters);
            for (int other = 0; other <= 8; other++) {
                x.pattern(0, 0, other, 11111111, 11111111);
                x.pattern(0, 0, other, 0, 0);
                CHECKS.same(other + " any letters fit " + count, other == count, x.fits(2 * other));
                CHECKS.same(other + " letters 0 fit " + count, other == count, x.fits(2 * other + 1));
            }
            letters += "0";
        }
    }

    private static void takesNumbersFrom0On() {
        CHECKS.about("3: first and second: 0 or more");
        for (int number : new int[] {0, 1, GREATEST - 1, GREATEST}) {
            CHECKS.taken("first " + number, 0, PatternEdgesTest::oneKind, x -> x.pattern(0, 0, 0, number, 0));
            CHECKS.taken("second " + number, 0, PatternEdgesTest::oneKind, x -> x.pattern(0, 0, 0, 0, number));
            CHECKS.taken("both " + number, 0, PatternEdgesTest::oneKind, x -> x.pattern(0, 0, 0, number, number));
            CHECKS.taken("second " + number + " with four tokens", 0, PatternEdgesTest::oneKind,
                    x -> x.pattern(0, 0, 4, 0, number));
        }
        int most = 2111111111;
        CHECKS.taken("eight tokens of great numbers", 0, PatternEdgesTest::oneKind,
                x -> x.pattern(0, 0, 8, most, most));
    }

    private static void takesTokensFrom0To11() {
        CHECKS.about("3: a token is 0 to 11");
        int power = 1;
        for (int place = 0; place < 8; place++) {
            power = place % 4 == 0 ? 1 : power * 100;
            for (int token = 0; token <= 11; token++) {
                KindGuesser x = named("00000000".substring(0, place + 1));
                int number = token * power;
                String what = "token " + token + " at " + place;
                CHECKS.same(what, 0, x.pattern(0, 0, place + 1, place < 4 ? number : 0, place < 4 ? 0 : number));
                CHECKS.same(what + " fits letters 0", token % 10 == 0 || token == 11, x.fits(0));
            }
        }
    }

    private static void readsTwoDigitsForEachToken() {
        CHECKS.about("3: token 0 plus 100 times token 1, and so on; the tokens 4 to 7 likewise");
        String name = "12345678";
        KindGuesser x = named(name);
        x.pattern(0, 0, 8, 4030201, 8070605);
        x.pattern(0, 0, 8, 1020304, 5060708);
        x.pattern(0, 0, 8, 8070605, 4030201);
        CHECKS.same("from the lowest on", true, x.fits(0));
        CHECKS.same("from the highest on", false, x.fits(1));
        CHECKS.same("the second number first", false, x.fits(2));
        for (int place = 0; place < 8; place++) {
            StringBuilder other = new StringBuilder(name);
            other.setCharAt(place, '9');
            KindGuesser y = named(other.toString());
            y.pattern(0, 0, 8, 4030201, 8070605);
            CHECKS.same("another letter at " + place, false, y.fits(0));
        }
    }

    private static void readsNoDigitsBeyond() {
        CHECKS.about("3: digits beyond these do not matter");
        int[] powers = {1, 100, 10000, 1000000};
        for (int tokens = 0; tokens < 8; tokens++) {
            int place = tokens % 4;
            for (int token : new int[] {12, 20, 99}) {
                int beyond = token * powers[place];
                int first = tokens < 4 ? beyond : 0;
                int second = tokens < 4 ? GREATEST : beyond;
                KindGuesser x = named("00000000".substring(0, tokens));
                CHECKS.same(tokens + " tokens, then " + token, 0, x.pattern(0, 0, tokens, first, second));
                CHECKS.same(tokens + " tokens, then " + token + ", fit", true, x.fits(0));
                CHECKS.same(tokens + " tokens, then " + token + ", fit by table", true, x.fitsByTable(0));
            }
        }
        KindGuesser x = named("00000000");
        CHECKS.same("the ninth digit and the tenth", 0, x.pattern(0, 0, 8, 2100000000, 1900000000));
        CHECKS.same("it fits", true, x.fits(0));
    }

    private static void answersTheNumber() {
        CHECKS.about("3: returns its number; patterns are numbered from 0 as they are added");
        KindGuesser x = oneKind();
        for (int pattern = 0; pattern < 20; pattern++) {
            CHECKS.same("pattern", pattern, x.pattern(0, pattern, pattern % 9, 0, 0));
        }
    }

    private static void refusesNoSuchKind() {
        CHECKS.about("3: IndexOutOfBoundsException if there is no such kind");
        for (int kind : States.outside(0, 1)) {
            CHECKS.outOfBounds("pattern of " + kind, States::small, x -> x.pattern(kind, 50, 1, 10, 0));
        }
        for (int kind : States.outside(0, 12)) {
            CHECKS.outOfBounds("pattern of " + kind, () -> States.lessThanFull(1), x -> x.pattern(kind, 0, 0, 0, 0));
        }
    }

    private static void refusesOtherWeights() {
        CHECKS.about("3: IllegalArgumentException if weight is out of range");
        for (int weight : States.outside(0, 100)) {
            CHECKS.badArgument("weight " + weight, States::small, x -> x.pattern(0, weight, 1, 10, 0));
        }
    }

    private static void refusesOtherCounts() {
        CHECKS.about("3: IllegalArgumentException if tokens is out of range");
        for (int tokens : States.outside(0, 8)) {
            CHECKS.badArgument("tokens " + tokens, States::small, x -> x.pattern(0, 50, tokens, 0, 0));
        }
    }

    private static void refusesNegativeNumbers() {
        CHECKS.about("3: IllegalArgumentException if first or second is out of range");
        for (int number : new int[] {-1, -2, -100, Integer.MIN_VALUE, Integer.MIN_VALUE + 1}) {
            for (int tokens : new int[] {0, 4, 8}) {
                CHECKS.badArgument("first " + number, States::small, x -> x.pattern(0, 50, tokens, number, 0));
                CHECKS.badArgument("second " + number, States::small, x -> x.pattern(0, 50, tokens, 0, number));
            }
        }
    }

    private static void refusesOtherTokens() {
        CHECKS.about("3: IllegalArgumentException if a token of these is not 0 to 11");
        int power = 1;
        for (int place = 0; place < 8; place++) {
            power = place % 4 == 0 ? 1 : power * 100;
            for (int token : new int[] {12, 13, 20, 21, 50, 99}) {
                int first = place < 4 ? token * power : 0;
                int second = place < 4 ? 0 : token * power;
                int least = place + 1;
                CHECKS.badArgument("token " + place + " is " + token + " and the last one", States::small,
                        x -> x.pattern(0, 50, least, first, second));
                CHECKS.badArgument("token " + place + " is " + token, States::small,
                        x -> x.pattern(0, 50, 8, first, second));
            }
        }
        CHECKS.badArgument("first is the greatest number", States::small, x -> x.pattern(0, 50, 1, GREATEST, 0));
        CHECKS.badArgument("second is the greatest number", States::small, x -> x.pattern(0, 50, 5, 0, GREATEST));
    }

    private static void refusesTheTwentyFirst() {
        CHECKS.about("3: IllegalStateException if there were 20 patterns");
        CHECKS.taken("the 20th", 19, () -> States.lessThanFull(1), x -> x.pattern(12, 100, 8, 0, 0));
        CHECKS.badState("the 21st", States::full, x -> x.pattern(0, 0, 0, 0, 0));
        CHECKS.badState("the 21st of 8 tokens", States::full, x -> x.pattern(13, 100, 8, 10101010, 10101010));
    }

    private static void countsDroppedOnes() {
        CHECKS.about("Terms: at most 20 ever, dropped ones counted");
        KindGuesser x = oneKind();
        for (int pattern = 0; pattern < 20; pattern++) {
            CHECKS.same("pattern", pattern, x.pattern(0, 0, 0, 0, 0));
            CHECKS.same("drop", 0, x.drop(pattern));
        }
        CHECKS.same("the 21st, while none is there", "throws.IllegalStateException",
                Checks.answerOf(() -> x.pattern(0, 0, 0, 0, 0)));
        for (int dropped = 0; dropped < 20; dropped++) {
            int d = dropped;
            CHECKS.badState("the 21st without " + d, () -> {
                KindGuesser y = oneKind();
                for (int pattern = 0; pattern < 20; pattern++) {
                    y.pattern(0, pattern, 1, 10, 0);
                }
                y.drop(d);
                return y;
            }, y -> y.pattern(0, 0, 0, 0, 0));
        }
    }

    private static void throwsTheFirstThatFits() {
        CHECKS.about("3: of several exceptions it is the first one of the throws clause");
        for (int kind : States.outside(0, 13)) {
            CHECKS.outOfBounds("no kind, full", States::full, x -> x.pattern(kind, 0, 0, 0, 0));
            CHECKS.outOfBounds("no kind, no weight", States::small, x -> x.pattern(kind, 101, 0, 0, 0));
            CHECKS.outOfBounds("no kind, all wrong, full", States::full, x -> x.pattern(kind, -1, 9, -1, -1));
            CHECKS.outOfBounds("no kind, no token, full", States::full, x -> x.pattern(kind, 0, 1, 12, 0));
        }
        CHECKS.badArgument("no weight, full", States::full, x -> x.pattern(0, 101, 0, 0, 0));
        CHECKS.badArgument("less than no weight, full", States::full, x -> x.pattern(0, -1, 0, 0, 0));
        CHECKS.badArgument("too many tokens, full", States::full, x -> x.pattern(0, 0, 9, 0, 0));
        CHECKS.badArgument("less than no tokens, full", States::full, x -> x.pattern(0, 0, -1, 0, 0));
        CHECKS.badArgument("first negative, full", States::full, x -> x.pattern(0, 0, 0, -1, 0));
        CHECKS.badArgument("second negative, full", States::full, x -> x.pattern(0, 0, 0, 0, -1));
        CHECKS.badArgument("token 0 wrong, full", States::full, x -> x.pattern(0, 0, 1, 12, 0));
        CHECKS.badArgument("token 7 wrong, full", States::full, x -> x.pattern(0, 0, 8, 0, 12000000));
    }

    private static void dropsUntilNoneIsThere() {
        CHECKS.about("4: returns how many are there then");
        KindGuesser upward = new KindGuesser();
        KindGuesser downward = new KindGuesser();
        upward.kind(-1);
        downward.kind(-1);
        for (int pattern = 0; pattern < 20; pattern++) {
            upward.pattern(0, 0, 0, 0, 0);
            downward.pattern(0, 0, 0, 0, 0);
        }
        for (int step = 0; step < 20; step++) {
            CHECKS.same("byName while some are there", 0, upward.byName());
            CHECKS.same("drop " + step, 19 - step, upward.drop(step));
            CHECKS.same("drop " + (19 - step), 19 - step, downward.drop(19 - step));
        }
        CHECKS.same("byName when none is there", -1, upward.byName());
        KindGuesser x = oneKind();
        x.pattern(0, 0, 0, 0, 0);
        CHECKS.same("drop of the only one", 0, x.drop(0));
        CHECKS.same("the next one's number", 1, x.pattern(0, 0, 0, 0, 0));
        CHECKS.same("drop of it", 0, x.drop(1));
    }

    private static void refusesToDropWhatIsNotThere() {
        CHECKS.about("4: IndexOutOfBoundsException if there is no such pattern there");
        CHECKS.outOfBounds("one dropped before", States::small, x -> x.drop(1));
        for (int pattern : States.outside(0, 2)) {
            CHECKS.outOfBounds("drop " + pattern, States::small, x -> x.drop(pattern));
        }
        for (int pattern : States.outside(0, 19)) {
            CHECKS.outOfBounds("drop " + pattern, States::full, x -> x.drop(pattern));
        }
        for (int pattern : new int[] {3, 12, 13}) {
            CHECKS.outOfBounds("dropped " + pattern, States::full, x -> x.drop(pattern));
        }
        CHECKS.outOfBounds("the 20th, not yet added", () -> States.lessThanFull(1), x -> x.drop(19));
    }

    private static void standsForAnyRow() {
        CHECKS.about("Terms: 10 for any row of letters, also none");
        fit("*", "", true);
        fit("*", "0", true);
        fit("*", States.NAME, true);
        fit("********", "", true);
        fit("********", States.NAME, true);
        fit("*0", "0", true);
        fit("0*", "0", true);
        fit("0*0", "00", true);
        fit("0*0", "0", false);
        fit("0*0", "099999999990", true);
        fit("0*0", "099999999901", false);
        fit("*0*", "999999999990", true);
        fit("*0*", "999999999999", false);
    }

    private static void standsForAnyOneLetter() {
        CHECKS.about("Terms: and 11 for any one letter");
        fit("?", "", false);
        for (int letter = 0; letter <= 9; letter++) {
            fit("?", "" + letter, true);
        }
        fit("?", "00", false);
        fit("????????", "1234567", false);
        fit("????????", "12345678", true);
        fit("????????", "123456789", false);
    }

    private static void standsForTheLetterItself() {
        CHECKS.about("Terms: letters, 0 to 9, which stand for themselves");
        for (int token = 0; token <= 9; token++) {
            for (int letter = 0; letter <= 9; letter++) {
                fit("" + token, "" + letter, token == letter);
            }
        }
    }

    private static void fitsTheEmptyName() {
        CHECKS.about("12, 13: fits the name, if that is a row for which it stands: nothing there yet");
        fit("", "", true);
        fit("0", "", false);
        fit("?", "", false);
        fit("*", "", true);
        fit("*?", "", false);
        fit("*0*", "", false);
        fit("", "0", false);
        fit("", States.NAME, false);
    }

    private static void fitsTheFullName() {
        CHECKS.about("12, 13: fits the name, if that is a row for which it stands: full");
        fit("3141592*", States.NAME, true);
        fit("*9265358", States.NAME, true);
        fit("*9265359", States.NAME, false);
        fit("4141592*", States.NAME, false);
        fit("????????", States.NAME, false);
        fit("???????*", States.NAME, true);
        fit("*???????", States.NAME, true);
        fit("3*8", States.NAME, true);
        fit("3*9", States.NAME, false);
        fit("31415926", States.NAME, false);
        fit("0*0*0*0*", "000000000000", true);
        fit("0*0*0*1*", "000000000000", false);
        fit("*1*1*1*1", "011011011011", true);
    }

    /** All patterns of up to three signs of four, at all names of up to four letters of two. */
    private static void fitsAsRegularExpressionsTell() {
        CHECKS.about("12, 13: tells whether a pattern fits the name, and tells the same by a table");
        List<String> names = rows("01", 4);
        for (String pattern : rows("01*?", 3)) {
            String expression = pattern.replace("?", "[0-9]").replace("*", "[0-9]*");
            for (String name : names) {
                fit(pattern, name, name.matches(expression));
            }
        }
    }

    private static List<String> rows(String signs, int most) {
        List<String> rows = new ArrayList<>(List.of(""));
        for (int row = 0; row < rows.size() && rows.get(row).length() < most; row++) {
            for (int sign = 0; sign < signs.length(); sign++) {
                rows.add(rows.get(row) + signs.charAt(sign));
            }
        }
        return rows;
    }

    private static void refusesToFitWhatIsNotThere() {
        CHECKS.about("12, 13: IndexOutOfBoundsException if there is no such pattern there");
        CHECKS.outOfBounds("fits of one dropped", States::small, x -> x.fits(1));
        CHECKS.outOfBounds("fitsByTable of one dropped", States::small, x -> x.fitsByTable(1));
        for (int pattern : States.outside(0, 2)) {
            CHECKS.outOfBounds("fits " + pattern, States::small, x -> x.fits(pattern));
            CHECKS.outOfBounds("fitsByTable " + pattern, States::small, x -> x.fitsByTable(pattern));
        }
        for (int pattern : States.outside(0, 19)) {
            CHECKS.outOfBounds("fits " + pattern, States::full, x -> x.fits(pattern));
            CHECKS.outOfBounds("fitsByTable " + pattern, States::full, x -> x.fitsByTable(pattern));
        }
        for (int pattern : new int[] {3, 12, 13}) {
            CHECKS.outOfBounds("fits of the dropped " + pattern, States::full, x -> x.fits(pattern));
            CHECKS.outOfBounds("fitsByTable of the dropped " + pattern, States::full, x -> x.fitsByTable(pattern));
        }
    }

    private static void answersNoKindByName() {
        CHECKS.about("Terms: the kind by name, -1 if none does");
        KindGuesser x = new KindGuesser();
        CHECKS.same("without kinds", -1, x.byName());
        x.kind(-1);
        CHECKS.same("without patterns", -1, x.byName());
        Written.pattern(x, 0, 100, "0");
        CHECKS.same("with one that does not fit", -1, x.byName());
        Written.pattern(x, 0, 0, "");
        CHECKS.same("with one that fits", 0, x.byName());
        x.drop(1);
        CHECKS.same("when that is dropped", -1, x.byName());
        x.letter(0);
        CHECKS.same("when the other one fits", 0, x.byName());
        x.drop(0);
        CHECKS.same("when none is there", -1, x.byName());
    }

    private static void first(int due, String what, int[] weights, String[] signs) {
        KindGuesser x = named("00000000");
        for (int pattern = 0; pattern < weights.length; pattern++) {
            Written.pattern(x, pattern, weights[pattern], signs[pattern]);
        }
        CHECKS.same(what, due, x.byName());
    }

    private static void putsGreaterWeightsFirst() {
        CHECKS.about("Terms: greater weights first");
        first(1, "100 behind 99", new int[] {99, 100}, new String[] {"*", "*"});
        first(0, "100 ahead of 99", new int[] {100, 99}, new String[] {"*", "*"});
        first(1, "1 behind 0", new int[] {0, 1}, new String[] {"*", "*"});
        first(0, "1 ahead of 0", new int[] {1, 0}, new String[] {"*", "*"});
        first(1, "1 behind 0, shorter", new int[] {0, 1}, new String[] {"????????", "*"});
        first(0, "100 ahead of 99, shorter", new int[] {100, 99}, new String[] {"*", "????????"});
        first(1, "the greatest in between", new int[] {50, 52, 51}, new String[] {"*", "*", "*"});
    }

    private static void putsLongerOnesNext() {
        CHECKS.about("Terms: then longer ones");
        first(1, "2 behind 1", new int[] {7, 7}, new String[] {"*", "**"});
        first(0, "2 ahead of 1", new int[] {7, 7}, new String[] {"**", "*"});
        first(1, "8 behind 7", new int[] {7, 7}, new String[] {"*******", "00000000"});
        first(0, "8 ahead of 7", new int[] {7, 7}, new String[] {"00000000", "*******"});
        first(2, "8 behind 7 that fit and 7 that do not", new int[] {7, 7, 7},
                new String[] {"*******", "0000000", "*******0"});
        KindGuesser x = named("");
        Written.pattern(x, 0, 7, "");
        Written.pattern(x, 1, 7, "*");
        CHECKS.same("1 behind none", 1, x.byName());
    }

    private static void putsLowerNumbersLast() {
        CHECKS.about("Terms: then lower numbers");
        KindGuesser x = named("0");
        for (int pattern = 0; pattern < 20; pattern++) {
            x.pattern(pattern % 14, 50, 1, pattern % 3 == 0 ? 0 : pattern % 3 + 9, 0);
            CHECKS.same("byName with " + (pattern + 1), 0, x.byName());
        }
        for (int pattern = 0; pattern < 19; pattern++) {
            x.drop(pattern);
            CHECKS.same("byName without " + pattern, (pattern + 1) % 14, x.byName());
        }
        x.drop(19);
        CHECKS.same("byName without any", -1, x.byName());
    }
}
