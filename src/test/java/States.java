import java.util.Arrays;
import java.util.stream.IntStream;

/** Objects in the states that the document's boundaries speak of, and numbers outside a range. */
final class States {
    /** How many calls it takes to make a full one. */
    static final int CALLS_TO_FILL = 14 + 20 + 3 + 12 + 72 + 12 + 16 + 30 + 10;
    static final String NAME = "314159265358";
    static final int[] BYTES = {137, 80, 78, 71, 13, 10, 26, 10, 0, 0, 0, 13, 73, 72, 68, 82};

    private static final int[] PARENTS = {-1, 0, 1, 2, 3, 0, 5, 5, -1, 8, 9, -1, 11, 12};
    /** The first two tell the whole name, the others parts of it, or of other ones. */
    private static final String[] PATTERNS = {
        "3141592*", "*9265358", "31*58", "*", "", "3*8", "????????", "*5*5*5*", "3?4?5?2*", "*358",
        "1*", "*?*", "12", "**", "*31", "314*", "*8", "3*", "*2653*", "0*",
    };
    /** Far ones, and those that would fall back into a small range where a number is cut or multiplied. */
    private static final int[] FAR = {
        -65536, -256, 256, 65536, 1 << 28, 1 << 29, 1 << 30, Integer.MAX_VALUE - 1, Integer.MAX_VALUE,
        Integer.MIN_VALUE, Integer.MIN_VALUE + 1,
    };

    private States() {
    }

    /** The two nearest numbers outside a range on either side, and far ones. */
    static int[] outside(int least, int greatest) {
        int[] near = {least - 2, least - 1, greatest + 1, greatest + 2};
        return IntStream.concat(Arrays.stream(near), Arrays.stream(FAR).filter(far -> far < least || far > greatest))
                .distinct().toArray();
    }

    static KindGuesser fresh() {
        return new KindGuesser();
    }

    static KindGuesser withKinds(int count) {
        KindGuesser x = new KindGuesser();
        for (int kind = 0; kind < count; kind++) {
            x.kind(PARENTS[kind]);
        }
        return x;
    }

    /** Kinds, each a special one of the one before. */
    static KindGuesser line(int count) {
        KindGuesser x = new KindGuesser();
        for (int kind = 0; kind < count; kind++) {
            x.kind(kind - 1);
        }
        return x;
    }

    /** Two kinds, three patterns of which 1 is dropped, two rules with two tests and one, and a short file. */
    static KindGuesser small() {
        KindGuesser x = withKinds(2);
        Written.pattern(x, 1, 70, "31*");
        Written.pattern(x, 0, 60, "*");
        Written.pattern(x, 0, 50, "?*");
        x.drop(1);
        x.rule(0, 50);
        x.rule(1, 49);
        x.test(0, 0, 0, 0, 137, 255);
        x.test(0, 1, 1, 15, 64, 240);
        x.test(1, 0, 0, 3, 80, 255);
        Written.name(x, "31");
        Written.bytes(x, 137, 80);
        stand(x, 2, 12);
        return x;
    }

    /** All that an object takes: what stands here leaves no room for one more of anything. */
    static KindGuesser full() {
        return lessThanFull(0);
    }

    /** So many less than an object takes, of kinds, patterns, rules, tests of each rule, letters and bytes. */
    static KindGuesser lessThanFull(int less) {
        int kinds = 14 - less;
        KindGuesser x = withKinds(kinds);
        for (int pattern = 0; pattern < 20 - less; pattern++) {
            Written.pattern(x, 3 * pattern % kinds, 100 - pattern, PATTERNS[pattern]);
        }
        x.drop(3);
        x.drop(12);
        x.drop(13);
        for (int rule = 0; rule < 12 - less; rule++) {
            x.rule(5 * rule % kinds, 9 * rule);
            for (int test = 0; test < 6 - less; test++) {
                addTest(x, rule, test);
            }
        }
        Written.name(x, NAME.substring(0, 12 - less));
        Written.bytes(x, Arrays.copyOf(BYTES, 16 - less));
        stand(x, kinds, 30);
        return x;
    }

    /** The first three rules tell all bytes, the others parts of them. */
    private static void addTest(KindGuesser x, int rule, int test) {
        int from = rule < 3 ? 5 * rule + test : (rule + 2 * test) % 16;
        int to = rule < 3 ? from : Math.min(15, from + rule % 4);
        int level = rule < 6 ? test : test % 3;
        int mask = rule % 2 == 0 ? 255 : 240 >> test;
        x.test(rule, level, from, to, BYTES[from] & mask, mask);
    }

    private static void stand(KindGuesser x, int kinds, int count) {
        for (int step = 0; step < count; step++) {
            x.program(step % 3, 5 * step % kinds, 7 * step % 10, step % 4 == 3 ? 2 : 1);
        }
        for (int step = 0; step < count / 3; step++) {
            x.setDefault(step % 3, 5 * step % kinds, 7 * step % 10);
        }
    }
}
