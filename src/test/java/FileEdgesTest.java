/** The boundary cases of the promises 9, 10 and 11, sentence by sentence: letter, put, empty. */
public final class FileEdgesTest {
    private static final Checks CHECKS = new Checks();

    public static void main(String[] args) {
        takesLettersFrom0To9();
        countsLetters();
        refusesOtherLetters();
        refusesTheThirteenthLetter();
        looksAtTheLetterFirst();
        takesBytesFrom0To255();
        countsBytes();
        refusesOtherBytes();
        refusesTheSeventeenthByte();
        looksAtTheByteFirst();
        emptiesNameAndBytes();
        countsBothTogether();
        keepsAllElse();
        leavesNothingBehind();
        makesRoomAgain();
        CHECKS.close();
    }

    private static void takesLettersFrom0To9() {
        CHECKS.about("9: letter: 0 to 9");
        for (int letter = 0; letter <= 9; letter++) {
            KindGuesser x = States.withKinds(1);
            for (int token = 0; token <= 9; token++) {
                x.pattern(0, 0, 1, token, 0);
            }
            CHECKS.same("letter " + letter, 1, x.letter(letter));
            for (int token = 0; token <= 9; token++) {
                CHECKS.same("the token " + token + " fits " + letter, token == letter, x.fits(token));
            }
        }
    }

    private static void countsLetters() {
        CHECKS.about("9: returns how many it has then");
        KindGuesser x = States.fresh();
        for (int count = 1; count <= 12; count++) {
            CHECKS.same("letter", count, x.letter(count % 10));
            x.put(0);
        }
        Checks.answerOf(() -> x.letter(0));
        CHECKS.same("the file after a 13th letter", 24, x.empty());
    }

    private static void refusesOtherLetters() {
        CHECKS.about("9: IllegalArgumentException if letter is out of range");
        for (int letter : States.outside(0, 9)) {
            CHECKS.badArgument("letter " + letter, States::fresh, x -> x.letter(letter));
            CHECKS.badArgument("letter " + letter + " after two", States::small, x -> x.letter(letter));
            CHECKS.badArgument("letter " + letter + " after 11", () -> States.lessThanFull(1), x -> x.letter(letter));
        }
    }

    private static void refusesTheThirteenthLetter() {
        CHECKS.about("9: IllegalStateException if it has 12");
        for (int letter = 0; letter <= 9; letter++) {
            int l = letter;
            CHECKS.taken("a 12th letter", 12, () -> States.lessThanFull(1), x -> x.letter(l));
            CHECKS.badState("a 13th letter", States::full, x -> x.letter(l));
        }
    }

    private static void looksAtTheLetterFirst() {
        CHECKS.about("9: of several exceptions it is the first one of the throws clause");
        for (int letter : States.outside(0, 9)) {
            CHECKS.badArgument("letter " + letter + " after 12", States::full, x -> x.letter(letter));
        }
    }

    private static void takesBytesFrom0To255() {
        CHECKS.about("10: value: 0 to 255");
        for (int value = 0; value <= 255; value++) {
            KindGuesser x = States.withKinds(1);
            int[] wanted = {0, 255, value, 255 - value, (value + 1) % 256, (value + 255) % 256};
            for (int rule = 0; rule < 6; rule++) {
                x.rule(0, 0);
                x.test(rule, 0, 0, 15, wanted[rule], 255);
            }
            CHECKS.same("put " + value, 1, x.put(value));
            for (int rule = 0; rule < 6; rule++) {
                CHECKS.same("test of " + wanted[rule] + " after put " + value, wanted[rule] == value, x.proves(rule));
            }
        }
    }

    private static void countsBytes() {
        CHECKS.about("10: returns how many there are then");
        KindGuesser x = States.fresh();
        for (int count = 1; count <= 16; count++) {
            CHECKS.same("put", count, x.put(17 * count - 17));
        }
        Checks.answerOf(() -> x.put(0));
        x.letter(0);
        CHECKS.same("the file after a 17th byte", 17, x.empty());
    }

    private static void refusesOtherBytes() {
        CHECKS.about("10: IllegalArgumentException if value is out of range");
        for (int value : States.outside(0, 255)) {
            CHECKS.badArgument("put " + value, States::fresh, x -> x.put(value));
            CHECKS.badArgument("put " + value + " after two", States::small, x -> x.put(value));
            CHECKS.badArgument("put " + value + " after 15", () -> States.lessThanFull(1), x -> x.put(value));
        }
    }

    private static void refusesTheSeventeenthByte() {
        CHECKS.about("10: IllegalStateException if there are 16");
        for (int value : new int[] {0, 1, 9, 65, 128, 254, 255}) {
            CHECKS.taken("a 16th byte", 16, () -> States.lessThanFull(1), x -> x.put(value));
            CHECKS.badState("a 17th byte", States::full, x -> x.put(value));
        }
    }

    private static void looksAtTheByteFirst() {
        CHECKS.about("10: of several exceptions it is the first one of the throws clause");
        for (int value : States.outside(0, 255)) {
            CHECKS.badArgument("put " + value + " after 16", States::full, x -> x.put(value));
        }
    }

    private static void emptiesNameAndBytes() {
        CHECKS.about("11: empties name and bytes");
        KindGuesser x = States.withKinds(1);
        Written.pattern(x, 0, 0, "");
        x.rule(0, 0);
        x.test(0, 0, 0, 15, 0, 0);
        Written.name(x, States.NAME);
        Written.bytes(x, States.BYTES);
        CHECKS.same("full: the pattern of no letters fits", false, x.fits(0));
        CHECKS.same("full: the test of any byte holds", true, x.proves(0));
        x.empty();
        CHECKS.same("the pattern of no letters fits", true, x.fits(0));
        CHECKS.same("and by the table", true, x.fitsByTable(0));
        CHECKS.same("the test of any byte holds", false, x.proves(0));
        x.drop(0);
        CHECKS.same("guess of it", -1, x.guess());
    }

    private static void countsBothTogether() {
        CHECKS.about("11: returns how many letters and bytes there were together");
        for (int letters = 0; letters <= 12; letters++) {
            for (int bytes = 0; bytes <= 16; bytes++) {
                KindGuesser x = States.fresh();
                Written.name(x, States.NAME.substring(0, letters));
                Written.bytes(x, java.util.Arrays.copyOf(States.BYTES, bytes));
                CHECKS.same("empty of " + letters + " and " + bytes, letters + bytes, x.empty());
                CHECKS.same("empty of nothing", 0, x.empty());
            }
        }
    }

    private static void keepsAllElse() {
        CHECKS.about("11: empties nothing else");
        KindGuesser x = States.full();
        x.empty();
        CHECKS.same("kinds", 14, x.kinds());
        CHECKS.same("the pattern of no letters", true, x.fits(4));
        CHECKS.same("its kind", 12, x.byName());
        Written.name(x, States.NAME);
        Written.bytes(x, States.BYTES);
        CHECKS.same("all that it told before", Report.ALIKE, Report.firstDifference(
                Report.of(Report.Respect.NAME, States.full()), Report.of(Report.Respect.NAME, x)));
        KindGuesser y = States.full();
        y.empty();
        Written.bytes(y, States.BYTES);
        Written.name(y, States.NAME);
        CHECKS.same("all that its bytes told before", Report.ALIKE, Report.firstDifference(
                Report.of(Report.Respect.BYTES, States.full()), Report.of(Report.Respect.BYTES, y)));
    }

    /** What was written before would show where less is written now. */
    private static void leavesNothingBehind() {
        CHECKS.about("11: what was there counts no more, as far as less is there now");
        KindGuesser x = States.withKinds(1);
        Written.pattern(x, 0, 0, "31*");
        x.rule(0, 0);
        x.test(0, 0, 1, 15, 80, 255);
        Written.name(x, States.NAME);
        Written.bytes(x, States.BYTES);
        CHECKS.same("before: fits", true, x.fits(0));
        CHECKS.same("before: proves", true, x.proves(0));
        x.empty();
        x.letter(3);
        x.put(137);
        CHECKS.same("fits", false, x.fits(0));
        CHECKS.same("fitsByTable", false, x.fitsByTable(0));
        CHECKS.same("proves", false, x.proves(0));
        x.letter(1);
        x.put(80);
        CHECKS.same("fits with the second letter", true, x.fits(0));
        CHECKS.same("fitsByTable with the second letter", true, x.fitsByTable(0));
        CHECKS.same("proves with the second byte", true, x.proves(0));
    }

    private static void makesRoomAgain() {
        CHECKS.about("11: after it there is room for 12 letters and 16 bytes");
        KindGuesser x = States.fresh();
        for (int round = 0; round < 3; round++) {
            for (int count = 1; count <= 12; count++) {
                CHECKS.same("letter", count, x.letter(9));
            }
            for (int count = 1; count <= 16; count++) {
                CHECKS.same("put", count, x.put(255));
            }
            CHECKS.same("a 13th letter", "throws.IllegalStateException", Checks.answerOf(() -> x.letter(9)));
            CHECKS.same("a 17th byte", "throws.IllegalStateException", Checks.answerOf(() -> x.put(255)));
            CHECKS.same("empty", 28, x.empty());
        }
    }
}
