/** Promises 3, 4, 12, 13 and 15: pattern, drop, fits, fitsByTable, byName. */
public final class PatternsTest {
    private static final Checks CHECKS = new Checks();

    public static void main(String[] args) {
        fitsWhatItStandsFor();
        readsDigitsBeyondAsNothing();
        numbersAndDrops();
        ordersPatterns();
        fitsAnewWithEachLetter();
        refusesWrongPatterns();
        refusesWrongTokens();
        refusesTooMany();
        CHECKS.close();
    }

    private static KindGuesser oneKind() {
        KindGuesser x = new KindGuesser();
        x.kind(-1);
        return x;
    }

    private static KindGuesser twenty() {
        KindGuesser x = oneKind();
        for (int pattern = 0; pattern < 20; pattern++) {
            x.pattern(0, pattern, 1, 10, 0);
        }
        return x;
    }

    /** Three patterns, of which 1 has been dropped again. */
    private static KindGuesser oneDropped() {
        KindGuesser x = oneKind();
        x.pattern(0, 5, 1, 10, 0);
        x.pattern(0, 5, 1, 10, 0);
        x.pattern(0, 5, 0, 0, 0);
        x.drop(1);
        return x;
    }

    private static void fit(String pattern, String name, boolean due) {
        KindGuesser x = oneKind();
        Written.pattern(x, 0, 0, pattern);
        Written.name(x, name);
        CHECKS.same("'" + pattern + "' fits '" + name + "'", due, x.fits(0));
        CHECKS.same("'" + pattern + "' fitsByTable '" + name + "'", due, x.fitsByTable(0));
        CHECKS.same("byName of '" + pattern + "' and '" + name + "'", due ? 0 : -1, x.byName());
    }

    private static void fitsWhatItStandsFor() {
        fit("", "", true);
        fit("", "0", false);
        fit("0", "", false);
        fit("0", "0", true);
        fit("0", "1", false);
        fit("0", "00", false);
        fit("9", "9", true);
        fit("?", "", false);
        fit("?", "7", true);
        fit("?", "77", false);
        fit("*", "", true);
        fit("*", "123456789012", true);
        fit("********", "", true);
        fit("********", "123456789012", true);
        fit("????????", "12345678", true);
        fit("????????", "1234567", false);
        fit("????????", "123456789", false);
        fit("01234567", "01234567", true);
        fit("01234567", "01234568", false);
        fit("01234567", "0123456", false);
        fit("12*", "12", true);
        fit("12*", "123", true);
        fit("12*", "132", false);
        fit("*12", "12", true);
        fit("*12", "1212", true);
        fit("*12", "121", false);
        fit("1*2", "12", true);
        fit("1*2", "1122", true);
        fit("1*2", "1121", false);
        fit("1*2", "2", false);
        fit("*1*2*", "34152", true);
        fit("*1*2*", "3425261", false);
        fit("*12*12*", "1212", true);
        fit("*12*12*", "12", false);
        fit("*?*", "", false);
        fit("*?*", "5", true);
        fit("?*?", "5", false);
        fit("?*?", "55", true);
        fit("*?1", "11", true);
        fit("*?1", "1", false);
        fit("1*1*1*12", "1111112", true);
        fit("1*1*1*12", "1111121", false);
        fit("*0*0*0*1", "000000000000", false);
        fit("*0*0*0*0", "000000000000", true);
        fit("*11", "11", true);
        fit("1?3*", "1234", true);
        fit("1?3*", "13", false);
    }

    private static void readsDigitsBeyondAsNothing() {
        KindGuesser x = oneKind();
        CHECKS.same("no tokens of 99s", 0, x.pattern(0, 0, 0, Integer.MAX_VALUE, Integer.MAX_VALUE));
        CHECKS.same("one token, 99s above", 1, x.pattern(0, 0, 1, 99999903, Integer.MAX_VALUE));
        CHECKS.same("four tokens, digits above", 2, x.pattern(0, 0, 4, 2103020111, 99));
        CHECKS.same("five tokens, 99s above", 3, x.pattern(0, 0, 5, 1, 1999999911));
        CHECKS.same("eight tokens, digits above", 4, x.pattern(0, 0, 8, 2003020100, 2107060504));
        CHECKS.same("no tokens fit the empty name", true, x.fits(0));
        Written.name(x, "3");
        CHECKS.same("the one token fits", true, x.fits(1));
        x.empty();
        Written.name(x, "5123");
        CHECKS.same("the four tokens fit", true, x.fits(2));
        x.empty();
        Written.name(x, "5223");
        CHECKS.same("the four tokens do not fit another second letter", false, x.fits(2));
        x.empty();
        Written.name(x, "1000");
        CHECKS.same("the five tokens do not fit four letters", false, x.fits(3));
        Written.name(x, "7");
        CHECKS.same("the five tokens fit", true, x.fits(3));
        x.empty();
        Written.name(x, "01234567");
        CHECKS.same("the eight tokens fit", true, x.fits(4));
        CHECKS.same("the eight tokens fit by table", true, x.fitsByTable(4));
    }

    private static void numbersAndDrops() {
        KindGuesser x = oneKind();
        for (int pattern = 0; pattern < 20; pattern++) {
            CHECKS.same("pattern " + pattern, pattern, x.pattern(0, 100, 0, 0, 0));
            if (pattern % 2 == 1) {
                CHECKS.same("drop " + pattern, pattern / 2 + 1, x.drop(pattern));
            }
        }
        for (int pattern = 0; pattern < 20; pattern++) {
            int p = pattern;
            Object due = pattern % 2 == 0 ? "true" : "throws.IndexOutOfBoundsException";
            CHECKS.same("fits " + p, due, Checks.answerOf(() -> x.fits(p)));
            CHECKS.same("fitsByTable " + p, due, Checks.answerOf(() -> x.fitsByTable(p)));
        }
        CHECKS.same("byName with even ones", 0, x.byName());
        for (int pattern = 0; pattern < 20; pattern += 2) {
            CHECKS.same("drop " + pattern, 9 - pattern / 2, x.drop(pattern));
        }
        CHECKS.same("byName with none", -1, x.byName());
    }

    private static void ordersPatterns() {
        KindGuesser x = new KindGuesser();
        for (int kind = 0; kind < 7; kind++) {
            x.kind(-1);
        }
        CHECKS.same("byName without patterns", -1, x.byName());
        Written.pattern(x, 0, 30, "1*");
        CHECKS.same("byName with one that does not fit", -1, x.byName());
        Written.name(x, "12");
        CHECKS.same("byName with one", 0, x.byName());
        Written.pattern(x, 1, 30, "*2");
        CHECKS.same("lower number first", 0, x.byName());
        Written.pattern(x, 2, 30, "1**");
        CHECKS.same("longer first", 2, x.byName());
        Written.pattern(x, 3, 31, "*");
        CHECKS.same("greater weight first, however short", 3, x.byName());
        Written.pattern(x, 4, 29, "*******");
        CHECKS.same("less weight, however long", 3, x.byName());
        Written.pattern(x, 5, 100, "13*");
        CHECKS.same("one that does not fit", 3, x.byName());
        Written.pattern(x, 6, 31, "*");
        CHECKS.same("lower number of equals", 3, x.byName());
        x.drop(3);
        CHECKS.same("without pattern 3", 6, x.byName());
        x.drop(6);
        CHECKS.same("without pattern 6", 2, x.byName());
        x.drop(2);
        CHECKS.same("without pattern 2", 0, x.byName());
        x.drop(0);
        CHECKS.same("without pattern 0", 1, x.byName());
        x.drop(1);
        CHECKS.same("without pattern 1", 4, x.byName());
        x.empty();
        Written.name(x, "13");
        CHECKS.same("another name", 5, x.byName());
    }

    private static void fitsAnewWithEachLetter() {
        KindGuesser x = oneKind();
        Written.pattern(x, 0, 0, "*12");
        String due = "ffftftfft";
        String name = "31212012";
        for (int count = 0; count <= 8; count++) {
            CHECKS.same("fits after " + count, due.charAt(count) == 't', x.fits(0));
            CHECKS.same("fitsByTable after " + count, due.charAt(count) == 't', x.fitsByTable(0));
            if (count < 8) {
                x.letter(name.charAt(count) - '0');
            }
        }
        x.empty();
        CHECKS.same("fitsByTable after empty", false, x.fitsByTable(0));
    }

    private static void refusesWrongPatterns() {
        int[] none = {-1, 1, 3, 19, 20, 21, Integer.MIN_VALUE, Integer.MAX_VALUE};
        for (int pattern : none) {
            CHECKS.outOfBounds("drop " + pattern, PatternsTest::oneDropped, x -> x.drop(pattern));
            CHECKS.outOfBounds("fits " + pattern, PatternsTest::oneDropped, x -> x.fits(pattern));
            CHECKS.outOfBounds("fitsByTable " + pattern, PatternsTest::oneDropped, x -> x.fitsByTable(pattern));
        }
        int[] noKinds = {-1, 1, 14, Integer.MIN_VALUE, Integer.MAX_VALUE};
        for (int kind : noKinds) {
            CHECKS.outOfBounds("pattern of kind " + kind, PatternsTest::oneDropped, x -> x.pattern(kind, 0, 0, 0, 0));
            CHECKS.outOfBounds("kind ahead of all else", PatternsTest::twenty, x -> x.pattern(kind, -1, 9, -1, -1));
        }
        int[] noWeights = {-1, 101, Integer.MIN_VALUE, Integer.MAX_VALUE};
        for (int weight : noWeights) {
            CHECKS.badArgument("weight " + weight, PatternsTest::oneDropped, x -> x.pattern(0, weight, 0, 0, 0));
        }
        int[] noLengths = {-1, 9, Integer.MIN_VALUE, Integer.MAX_VALUE};
        for (int tokens : noLengths) {
            CHECKS.badArgument("tokens " + tokens, PatternsTest::oneDropped, x -> x.pattern(0, 0, tokens, 0, 0));
        }
        int[] negative = {-1, -100, Integer.MIN_VALUE};
        for (int number : negative) {
            CHECKS.badArgument("first " + number, PatternsTest::oneDropped, x -> x.pattern(0, 0, 0, number, 0));
            CHECKS.badArgument("second " + number, PatternsTest::oneDropped, x -> x.pattern(0, 0, 0, 0, number));
        }
    }

    private static void refusesWrongTokens() {
        int power = 1;
        for (int place = 0; place < 8; place++) {
            power = place % 4 == 0 ? 1 : power * 100;
            int length = place + 1;
            int[] wrong = {12, 13, 20, 99};
            for (int token : wrong) {
                int first = place < 4 ? token * power : 0;
                int second = place < 4 ? 0 : token * power;
                CHECKS.badArgument("token " + place + " is " + token, PatternsTest::oneDropped,
                        x -> x.pattern(0, 0, length, first, second));
                CHECKS.same("token " + place + " does not matter", "0",
                        Checks.answerOf(() -> oneKind().pattern(0, 0, length - 1, first, second)));
            }
            int first = place < 4 ? 11 * power : 0;
            int second = place < 4 ? 0 : 11 * power;
            CHECKS.same("token " + place + " is 11", "0",
                    Checks.answerOf(() -> oneKind().pattern(0, 0, length, first, second)));
        }
    }

    private static void refusesTooMany() {
        CHECKS.badState("a 21st pattern", PatternsTest::twenty, x -> x.pattern(0, 0, 0, 0, 0));
        CHECKS.badArgument("a 21st pattern of weight 101", PatternsTest::twenty, x -> x.pattern(0, 101, 0, 0, 0));
        CHECKS.badArgument("a 21st pattern with token 12", PatternsTest::twenty, x -> x.pattern(0, 0, 1, 12, 0));
        CHECKS.badState("a 21st pattern after drops", () -> {
            KindGuesser x = twenty();
            x.drop(19);
            x.drop(0);
            return x;
        }, x -> x.pattern(0, 0, 0, 0, 0));
    }
}
