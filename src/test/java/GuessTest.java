/** Promise 17: guess. */
public final class GuessTest {
    private static final Checks CHECKS = new Checks();

    public static void main(String[] args) {
        tellsTextsFromBytes();
        guessesByNameAlone();
        guessesByBytesAlone();
        weighsPriorityAgainstName();
        prefersMoreSpecialPatterns();
        takesTheOrderAmongSpecialOnes();
        CHECKS.close();
    }

    /** Kinds: 0, of it 1, of 1 also 2, and 3 by itself; a byte 200 proves the kind 1 with this priority. */
    private static KindGuesser provedAs1(int priority) {
        KindGuesser x = new KindGuesser();
        x.kind(-1);
        x.kind(0);
        x.kind(1);
        x.kind(-1);
        x.rule(1, priority);
        x.test(0, 0, 0, 15, 200, 255);
        x.put(200);
        x.letter(5);
        return x;
    }

    private static void tellsTextsFromBytes() {
        for (int value = 0; value < 256; value++) {
            boolean text = value >= 32 && value <= 126 || value == 9 || value == 10 || value == 13;
            KindGuesser x = new KindGuesser();
            CHECKS.same("without bytes", -1, x.guess());
            x.put(value);
            CHECKS.same("guess of the byte " + value, text ? -1 : -2, x.guess());
            x.put(65);
            CHECKS.same("guess of the byte " + value + " and an A", text ? -1 : -2, x.guess());
            x.empty();
            x.letter(1);
            CHECKS.same("guess of a name alone", -1, x.guess());
            x.put(65);
            x.put(value);
            CHECKS.same("guess of an A and the byte " + value, text ? -1 : -2, x.guess());
        }
    }

    private static void guessesByNameAlone() {
        KindGuesser x = new KindGuesser();
        x.kind(-1);
        x.kind(-1);
        x.pattern(0, 1, 1, 10, 0);
        x.pattern(1, 2, 1, 5, 0);
        CHECKS.same("the empty name", 0, x.guess());
        x.letter(5);
        CHECKS.same("the name 5", 1, x.guess());
        x.put(0);
        CHECKS.same("the name 5 with bytes", 1, x.guess());
        x.drop(1);
        CHECKS.same("without pattern 1", 0, x.guess());
        x.drop(0);
        CHECKS.same("without patterns", -2, x.guess());
    }

    private static void guessesByBytesAlone() {
        for (int priority : new int[] {0, 49, 50, 100}) {
            KindGuesser x = provedAs1(priority);
            CHECKS.same("no pattern at all", 1, x.guess());
            x.pattern(3, 100, 1, 6, 0);
            CHECKS.same("no pattern that fits", 1, x.guess());
            x.pattern(2, 100, 1, 6, 0);
            CHECKS.same("no special pattern that fits", 1, x.guess());
        }
    }

    private static void weighsPriorityAgainstName() {
        for (int priority : new int[] {0, 1, 49, 50, 51, 100}) {
            for (int kind : new int[] {0, 3}) {
                KindGuesser x = provedAs1(priority);
                x.pattern(kind, 100, 1, 10, 0);
                CHECKS.same("priority " + priority + ", name of " + kind, priority >= 50 ? 1 : kind, x.guess());
                CHECKS.same("byName", kind, x.byName());
                CHECKS.same("byBytes", 1, x.byBytes());
            }
        }
    }

    private static void prefersMoreSpecialPatterns() {
        for (int priority : new int[] {0, 49, 50, 100}) {
            KindGuesser x = provedAs1(priority);
            x.pattern(3, 100, 1, 10, 0);
            x.pattern(0, 90, 1, 10, 0);
            x.pattern(2, 1, 1, 5, 0);
            CHECKS.same("special pattern behind others", 2, x.guess());
            CHECKS.same("byName of them", 3, x.byName());
            x.pattern(1, 2, 1, 5, 0);
            CHECKS.same("pattern of the kind itself", 1, x.guess());
            x.drop(3);
            x.drop(2);
            CHECKS.same("without these", priority >= 50 ? 1 : 3, x.guess());
        }
    }

    private static void takesTheOrderAmongSpecialOnes() {
        KindGuesser x = provedAs1(0);
        x.pattern(1, 10, 1, 10, 0);
        x.pattern(2, 10, 1, 10, 0);
        CHECKS.same("lower number", 1, x.guess());
        x.pattern(2, 10, 2, 1010, 0);
        CHECKS.same("longer", 2, x.guess());
        x.pattern(1, 11, 1, 11, 0);
        CHECKS.same("greater weight", 1, x.guess());
        x.letter(5);
        CHECKS.same("that does not fit any more", 2, x.guess());
        x.empty();
        CHECKS.same("empty: by name alone", 2, x.guess());
    }
}
