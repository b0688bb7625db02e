/** Promises 9, 10 and 11: letter, put, empty. */
public final class FileTest {
    private static final Checks CHECKS = new Checks();

    public static void main(String[] args) {
        countsLetters();
        countsBytes();
        emptiesBoth();
        refusesWrongValues();
        refusesTooMany();
        CHECKS.close();
    }

    /** A full file, with a pattern of any row that ends with a letter 9 and a rule of a byte 255 at the last place. */
    private static KindGuesser full() {
        KindGuesser x = probed();
        for (int count = 0; count < 12; count++) {
            x.letter(count == 11 ? 9 : 0);
        }
        for (int count = 0; count < 16; count++) {
            x.put(count == 15 ? 255 : 0);
        }
        return x;
    }

    private static KindGuesser probed() {
        KindGuesser x = new KindGuesser();
        x.kind(-1);
        x.pattern(0, 1, 2, 910, 0);
        x.rule(0, 60);
        x.test(0, 0, 15, 15, 255, 255);
        return x;
    }

    private static void countsLetters() {
        KindGuesser x = probed();
        for (int count = 1; count <= 12; count++) {
            CHECKS.same("letter " + count, count, x.letter(count == 12 ? 9 : count % 9));
            CHECKS.same("fits after " + count, count == 12, x.fits(0));
            CHECKS.same("fitsByTable after " + count, count == 12, x.fitsByTable(0));
        }
        for (int letter = 0; letter < 10; letter++) {
            KindGuesser y = new KindGuesser();
            y.kind(-1);
            y.pattern(0, 1, 1, letter, 0);
            y.letter(letter);
            CHECKS.same("fits the letter " + letter, true, y.fits(0));
        }
    }

    private static void countsBytes() {
        KindGuesser x = probed();
        for (int count = 1; count <= 16; count++) {
            CHECKS.same("put " + count, count, x.put(count == 16 ? 255 : count));
            CHECKS.same("proves after " + count, count == 16, x.proves(0));
        }
    }

    private static void emptiesBoth() {
        KindGuesser x = full();
        CHECKS.same("full: byName", 0, x.byName());
        CHECKS.same("full: byBytes", 0, x.byBytes());
        CHECKS.same("full: empty", 28, x.empty());
        CHECKS.same("emptied: byName", -1, x.byName());
        CHECKS.same("emptied: byBytes", -1, x.byBytes());
        CHECKS.same("emptied: guess", -1, x.guess());
        CHECKS.same("emptied: empty", 0, x.empty());
        CHECKS.same("emptied: kinds", 1, x.kinds());
        CHECKS.same("emptied: letter", 1, x.letter(9));
        CHECKS.same("emptied: fits", true, x.fits(0));
        CHECKS.same("one letter: empty", 1, x.empty());
        CHECKS.same("emptied: put", 1, x.put(255));
        CHECKS.same("emptied: put", 2, x.put(255));
        CHECKS.same("two bytes: proves", false, x.proves(0));
        CHECKS.same("two bytes: empty", 2, x.empty());
    }

    private static void refusesWrongValues() {
        int[] noLetters = {-1, 10, 11, Integer.MIN_VALUE, Integer.MAX_VALUE};
        for (int letter : noLetters) {
            CHECKS.badArgument("letter " + letter, KindGuesser::new, x -> x.letter(letter));
            CHECKS.badArgument("letter " + letter + " of a full name", FileTest::full, x -> x.letter(letter));
        }
        int[] noBytes = {-1, 256, Integer.MIN_VALUE, Integer.MAX_VALUE};
        for (int value : noBytes) {
            CHECKS.badArgument("put " + value, KindGuesser::new, x -> x.put(value));
            CHECKS.badArgument("put " + value + " into full bytes", FileTest::full, x -> x.put(value));
        }
    }

    private static void refusesTooMany() {
        CHECKS.badState("a 13th letter", FileTest::full, x -> x.letter(0));
        CHECKS.badState("a 17th byte", FileTest::full, x -> x.put(0));
    }
}
