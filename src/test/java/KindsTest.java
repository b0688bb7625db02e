/** Promises 1, 2, 7 and 8: a new object, kind, kinds, isSpecial. */
public final class KindsTest {
    private static final Checks CHECKS = new Checks();

    public static void main(String[] args) {
        beginsEmpty();
        numbersKinds();
        tellsSpecialOnes();
        tellsSpecialOnesOfALongLine();
        refusesWrongKinds();
        CHECKS.close();
    }

    /** Six kinds: 0, of it 1 and 2, of 1 also 3, of 3 also 4, and 5 by itself. */
    private static KindGuesser family() {
        KindGuesser x = new KindGuesser();
        x.kind(-1);
        x.kind(0);
        x.kind(0);
        x.kind(1);
        x.kind(3);
        x.kind(-1);
        return x;
    }

    private static KindGuesser fourteen() {
        KindGuesser x = new KindGuesser();
        for (int kind = 0; kind < 14; kind++) {
            x.kind(kind - 1);
        }
        return x;
    }

    private static void beginsEmpty() {
        KindGuesser x = new KindGuesser();
        CHECKS.same("new: kinds", 0, x.kinds());
        CHECKS.same("new: byName", -1, x.byName());
        CHECKS.same("new: byBytes", -1, x.byBytes());
        CHECKS.same("new: guess", -1, x.guess());
        CHECKS.same("new: empty", 0, x.empty());
        CHECKS.same("new: letter", 1, x.letter(0));
        CHECKS.same("new: put", 1, x.put(0));
        KindGuesser other = new KindGuesser();
        CHECKS.same("a second object: kind", 0, other.kind(-1));
        CHECKS.same("the first object then: kinds", 0, x.kinds());
        for (int number = -1; number < 20; number++) {
            int n = number;
            CHECKS.outOfBounds("new: fits " + n, KindGuesser::new, y -> y.fits(n));
            CHECKS.outOfBounds("new: fitsByTable " + n, KindGuesser::new, y -> y.fitsByTable(n));
            CHECKS.outOfBounds("new: drop " + n, KindGuesser::new, y -> y.drop(n));
            CHECKS.outOfBounds("new: proves " + n, KindGuesser::new, y -> y.proves(n));
            CHECKS.outOfBounds("new: programs " + n, KindGuesser::new, y -> y.programs(n));
            CHECKS.outOfBounds("new: opener " + n, KindGuesser::new, y -> y.opener(n));
        }
    }

    private static void numbersKinds() {
        KindGuesser x = new KindGuesser();
        for (int kind = 0; kind < 14; kind++) {
            CHECKS.same("kind", kind, x.kind(kind % 3 == 0 ? -1 : kind - 1));
            CHECKS.same("kinds", kind + 1, x.kinds());
        }
    }

    private static void tellsSpecialOnes() {
        String[] above = {"0", "01", "02", "013", "0134", "5"};
        KindGuesser x = family();
        for (int kind = 0; kind < 6; kind++) {
            for (int other = 0; other < 6; other++) {
                boolean due = above[kind].indexOf('0' + other) >= 0;
                CHECKS.same("isSpecial " + kind + " " + other, due, x.isSpecial(kind, other));
            }
        }
    }

    private static void tellsSpecialOnesOfALongLine() {
        KindGuesser x = fourteen();
        for (int kind = 0; kind < 14; kind++) {
            for (int other = 0; other < 14; other++) {
                CHECKS.same("line: isSpecial " + kind + " " + other, kind >= other, x.isSpecial(kind, other));
            }
        }
    }

    private static void refusesWrongKinds() {
        int[] none = {-1, 6, 7, 13, 14, Integer.MIN_VALUE, Integer.MAX_VALUE};
        for (int kind : none) {
            CHECKS.outOfBounds("isSpecial " + kind + " 0", KindsTest::family, x -> x.isSpecial(kind, 0));
            CHECKS.outOfBounds("isSpecial 0 " + kind, KindsTest::family, x -> x.isSpecial(0, kind));
            if (kind != -1) {
                CHECKS.outOfBounds("kind " + kind, KindsTest::family, x -> x.kind(kind));
            }
        }
        CHECKS.outOfBounds("kind -2", KindsTest::family, x -> x.kind(-2));
        CHECKS.badState("a 15th kind", KindsTest::fourteen, x -> x.kind(-1));
        CHECKS.badState("a 15th kind below 13", KindsTest::fourteen, x -> x.kind(13));
        CHECKS.outOfBounds("a 15th kind below 14", KindsTest::fourteen, x -> x.kind(14));
        CHECKS.outOfBounds("a 15th kind below -2", KindsTest::fourteen, x -> x.kind(-2));
    }
}
