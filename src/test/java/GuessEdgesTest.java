import java.util.Arrays;

/** The boundary cases of promise 17, guess, sentence by sentence. */
public final class GuessEdgesTest {
    private static final Checks CHECKS = new Checks();
    private static final int[] PRIORITIES = {0, 1, 48, 49, 50, 51, 99, 100};

    public static void main(String[] args) {
        takesASpecialOne();
        takesTheFirstSpecialOne();
        takesTheKindByBytesFrom50On();
        takesTheKindByBytesIfNoPatternFits();
        takesTheKindByNameOtherwise();
        looksAtThePriorityOfItsRule();
        takesTheKindByNameWithoutBytes();
        takesAFileWithoutBytesForAText();
        tellsTextsByEachByte();
        tellsTextsAtEachPlace();
        CHECKS.close();
    }

    /** A line of 14 kinds, of which the byte 200 proves this one; the name is 5. */
    private static KindGuesser proved(int kind, int priority) {
        KindGuesser x = States.line(14);
        x.rule(kind, priority);
        x.test(0, 0, 0, 0, 200, 255);
        x.put(200);
        x.letter(5);
        return x;
    }

    private static void takesASpecialOne() {
        CHECKS.about("Terms: the first pattern that fits and whose kind is a special one of b: b itself, or far below");
        for (int priority : PRIORITIES) {
            for (int b = 0; b < 14; b++) {
                for (int kind = 0; kind < 14; kind++) {
                    KindGuesser x = proved(b, priority);
                    Written.pattern(x, kind, 0, "*");
                    CHECKS.same("b is " + b + " by " + priority + ", the name tells " + kind,
                            kind >= b || priority < 50 ? kind : b, x.guess());
                }
            }
        }
    }

    private static void takesTheFirstSpecialOne() {
        CHECKS.about("Terms: the first one of these, however many come ahead that are not special ones");
        for (int priority : PRIORITIES) {
            KindGuesser x = proved(7, priority);
            for (int pattern = 0; pattern < 17; pattern++) {
                Written.pattern(x, pattern % 7, 100, "*******");
            }
            Written.pattern(x, 13, 0, "");
            Written.pattern(x, 8, 0, "5");
            Written.pattern(x, 9, 0, "?");
            CHECKS.same("by " + priority, 8, x.guess());
            x.drop(18);
            CHECKS.same("without that by " + priority, 9, x.guess());
            x.drop(19);
            CHECKS.same("without both by " + priority, priority >= 50 ? 7 : 0, x.guess());
        }
    }

    private static void takesTheKindByBytesFrom50On() {
        CHECKS.about("Terms: if there is none such, b, if its rule has the priority 50 or more");
        for (int priority = 0; priority <= 100; priority++) {
            KindGuesser x = proved(13, priority);
            Written.pattern(x, 0, 100, "5");
            CHECKS.same("by " + priority, priority < 50 ? 0 : 13, x.guess());
            CHECKS.same("byBytes by " + priority, 13, x.byBytes());
        }
    }

    private static void takesTheKindByBytesIfNoPatternFits() {
        CHECKS.about("Terms: or no pattern fits");
        for (int priority : PRIORITIES) {
            KindGuesser x = proved(0, priority);
            CHECKS.same("no pattern, by " + priority, 0, x.guess());
            Written.pattern(x, 13, 100, "6");
            CHECKS.same("one that does not fit, by " + priority, 0, x.guess());
            Written.pattern(x, 12, 100, "*");
            x.drop(1);
            CHECKS.same("one that is dropped, by " + priority, 0, x.guess());
            KindGuesser y = proved(13, priority);
            Written.pattern(y, 0, 100, "6");
            CHECKS.same("one beside that does not fit, by " + priority, 13, y.guess());
        }
    }

    private static void takesTheKindByNameOtherwise() {
        CHECKS.about("Terms: otherwise the kind by name");
        for (int priority = 0; priority < 50; priority++) {
            KindGuesser x = proved(13, priority);
            Written.pattern(x, 4, 99, "5");
            Written.pattern(x, 3, 100, "*");
            Written.pattern(x, 2, 100, "6*");
            CHECKS.same("by " + priority, 3, x.guess());
            CHECKS.same("byName", 3, x.byName());
        }
        for (int b = 0; b < 14; b++) {
            for (int kind = 0; kind < 14; kind++) {
                KindGuesser x = States.withKinds(14);
                x.rule(b, 49);
                x.test(0, 0, 0, 0, 0, 0);
                x.put(0);
                Written.pattern(x, kind, 0, "");
                CHECKS.same("b is " + b + ", the name tells " + kind + ", near or in another tree", kind, x.guess());
                Written.pattern(x, b, 0, "");
                CHECKS.same("both are told by the name", x.isSpecial(kind, b) ? kind : b, x.guess());
                x.drop(1);
                x.rule(b, 50);
                x.test(1, 0, 0, 0, 0, 0);
                CHECKS.same("by 50", x.isSpecial(kind, b) ? kind : b, x.guess());
            }
        }
    }

    private static void looksAtThePriorityOfItsRule() {
        CHECKS.about("Terms: its rule, of several the one with the greatest priority and the lowest number");
        KindGuesser x = proved(13, 49);
        Written.pattern(x, 0, 100, "*");
        x.rule(12, 100);
        CHECKS.same("beside a rule of 100 without tests", 0, x.guess());
        x.test(1, 0, 0, 0, 201, 255);
        CHECKS.same("beside a rule of 100 that proves nothing", 0, x.guess());
        x.rule(11, 49);
        x.test(2, 0, 0, 0, 0, 0);
        CHECKS.same("beside a later rule of 49", 0, x.guess());
        x.rule(10, 50);
        x.test(3, 0, 0, 0, 0, 0);
        CHECKS.same("beside a later rule of 50", 10, x.guess());
        x.rule(9, 50);
        x.test(4, 0, 0, 0, 0, 0);
        CHECKS.same("beside two rules of 50", 10, x.guess());
        Written.pattern(x, 11, 0, "*");
        CHECKS.same("with a special one of the first", 11, x.guess());
    }

    private static void takesTheKindByNameWithoutBytes() {
        CHECKS.about("Terms: if there is no kind by bytes: the kind by name");
        for (int put : new int[] {-1, 0, 65, 255}) {
            for (int kind = 0; kind < 14; kind++) {
                KindGuesser x = States.line(14);
                Written.pattern(x, kind, 0, "");
                Written.pattern(x, 13 - kind, 100, "5");
                if (put >= 0) {
                    x.put(put);
                }
                CHECKS.same("the empty name", kind, x.guess());
                x.letter(5);
                CHECKS.same("the name 5", 13 - kind, x.guess());
                x.letter(5);
                CHECKS.same("the name 55", put == 0 || put == 255 ? -2 : -1, x.guess());
                KindGuesser trees = States.withKinds(14);
                Written.pattern(trees, kind, 0, "*");
                CHECKS.same("a name of any tree", kind, trees.guess());
            }
        }
    }

    private static void takesAFileWithoutBytesForAText() {
        CHECKS.about("Terms: -1 for a text, which a file is without bytes");
        KindGuesser x = States.fresh();
        CHECKS.same("a new one", -1, x.guess());
        Written.name(x, States.NAME);
        CHECKS.same("with a full name", -1, x.guess());
        x.put(0);
        CHECKS.same("with a byte 0", -2, x.guess());
        x.empty();
        CHECKS.same("emptied", -1, x.guess());
        x.kind(-1);
        Written.pattern(x, 0, 0, "?");
        x.rule(0, 100);
        x.test(0, 0, 0, 15, 0, 0);
        CHECKS.same("with a pattern and a rule that do not count", -1, x.guess());
    }

    private static boolean isText(int value) {
        return value == 9 || value == 10 || value == 13 || value >= 32 && value <= 126;
    }

    private static void tellsTextsByEachByte() {
        CHECKS.about("Terms: or whose bytes are all from 32 to 126, or 9, 10 or 13; otherwise -2");
        for (int value = 0; value <= 255; value++) {
            KindGuesser x = States.fresh();
            x.put(value);
            CHECKS.same("the byte " + value, isText(value) ? -1 : -2, x.guess());
        }
        for (int value : new int[] {9, 10, 13, 32, 126}) {
            KindGuesser x = States.fresh();
            for (int count = 1; count <= 16; count++) {
                x.put(value);
                CHECKS.same(count + " bytes " + value, -1, x.guess());
            }
        }
    }

    private static void tellsTextsAtEachPlace() {
        CHECKS.about("Terms: all of them, the first one to the last of 16");
        for (int value : new int[] {0, 8, 11, 12, 14, 31, 127, 128, 255}) {
            for (int place = 0; place < 16; place++) {
                int[] bytes = new int[16];
                Arrays.fill(bytes, 32);
                bytes[place] = value;
                KindGuesser x = States.fresh();
                for (int count = 0; count < 16; count++) {
                    x.put(bytes[count]);
                    CHECKS.same(value + " at " + place + " of " + (count + 1), count < place ? -1 : -2, x.guess());
                }
                x.empty();
                CHECKS.same("emptied", -1, x.guess());
                x.put(65);
                CHECKS.same("a text after it", -1, x.guess());
            }
        }
    }
}
