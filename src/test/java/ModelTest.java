import java.util.ArrayList;
import java.util.List;
import java.util.Random;

/** All promises together: made-up runs of 512 calls, the same ones each time, compared with the model. */
public final class ModelTest {
    private static final int RUNS = 1500;
    private static final int CALLS = 512;
    private static final int[] ODD = {-2, -1, Integer.MIN_VALUE, Integer.MAX_VALUE, 3, 10, 12, 14, 16, 20, 101, 256};

    private static final Checks CHECKS = new Checks();

    private final Random random;
    private final KindGuesser x = new KindGuesser();
    private final Model model = new Model();
    private final List<String> calls = new ArrayList<>();
    /** How often, of a hundred times, an argument is made up without regard to its range. */
    private final int wildness;
    private boolean alike = true;

    private ModelTest(int run) {
        random = new Random(run);
        wildness = run % 3 == 0 ? 10 : 1;
    }

    public static void main(String[] args) {
        for (int run = 0; run < RUNS; run++) {
            ModelTest test = new ModelTest(run);
            for (int call = 0; call < CALLS && test.alike; call++) {
                test.callOnce(call < 150);
            }
            CHECKS.same("run " + run, true, test.alike);
        }
        CHECKS.close();
    }

    private void compare(String call, Checks.Call due, Checks.Call got) {
        String wanted = Checks.answerOf(due);
        String answered = Checks.answerOf(got);
        calls.add(call + " " + wanted);
        if (!wanted.equals(answered)) {
            alike = false;
            System.out.println(String.join("\n", calls) + "\nthe last one answered " + answered);
        }
    }

    private int pick(int least, int most) {
        if (random.nextInt(100) < wildness) {
            return ODD[random.nextInt(ODD.length)];
        }
        return most < least ? least : least + random.nextInt(most - least + 1);
    }

    /** A kind's number; mostly a later one, so that lines of kinds grow long. */
    private int aKind() {
        int last = model.kinds() - 1;
        return pick(random.nextInt(3) != 0 ? Math.max(0, last - 2) : 0, last);
    }

    private int aPattern() {
        return pick(0, model.patternsEver() - 1);
    }

    private int aRule() {
        return pick(0, model.rulesSoFar() - 1);
    }

    private int fourTokens() {
        int[] likely = {0, 1, 2, 10, 10, 11};
        int number = 0;
        for (int place = 0; place < 4; place++) {
            int token = random.nextInt(40) == 0 ? random.nextInt(20) : likely[random.nextInt(likely.length)];
            number = number * 100 + token;
        }
        if (random.nextInt(100) < wildness) {
            return random.nextBoolean() ? random.nextInt() : pick(0, 12);
        }
        return number + 100000000 * random.nextInt(21);
    }

    private int aByte() {
        int[] likely = {9, 10, 13, 32, 65, 126, 127, 200};
        return random.nextInt(4) == 0 ? pick(0, 255) : likely[random.nextInt(likely.length)];
    }

    private void callOnce(boolean building) {
        int choice = random.nextInt(100);
        if (building && choice < 50 || choice < 8) {
            build(choice % 5);
        } else if (choice < 50) {
            write(random.nextInt(45));
        } else if (choice < 70) {
            standPrograms();
        } else {
            ask(random.nextInt(12));
        }
    }

    private void build(int choice) {
        int kind = aKind();
        switch (choice) {
            case 0 -> {
                int parent = random.nextInt(4) == 0 ? -1 : kind;
                compare("kind " + parent, () -> model.kind(parent), () -> x.kind(parent));
            }
            case 1 -> addPattern(kind);
            case 2 -> {
                int priority = random.nextBoolean() ? pick(49, 51) : pick(0, 100);
                compare("rule " + kind + " " + priority, () -> model.rule(kind, priority),
                        () -> x.rule(kind, priority));
            }
            default -> addTest();
        }
    }

    private void addPattern(int kind) {
        int weight = pick(1, 3);
        int tokens = pick(0, random.nextBoolean() ? 4 : 8);
        int first = fourTokens();
        int second = fourTokens();
        compare("pattern " + kind + " " + weight + " " + tokens + " " + first + " " + second,
                () -> model.pattern(kind, weight, tokens, first, second),
                () -> x.pattern(kind, weight, tokens, first, second));
    }

    private void addTest() {
        int rule = aRule();
        int level = pick(0, random.nextInt(3));
        int from = pick(0, random.nextInt(16));
        int to = random.nextInt(10) == 0 ? pick(0, 15) : pick(Math.floorMod(from, 16), 15);
        int mask = random.nextBoolean() ? 255 : pick(0, 255);
        int value = random.nextInt(4) == 0 ? aByte() : aByte() & mask;
        compare("test " + rule + " " + level + " " + from + " " + to + " " + value + " " + mask,
                () -> model.test(rule, level, from, to, value, mask),
                () -> x.test(rule, level, from, to, value, mask));
    }

    private void write(int choice) {
        int letter = pick(0, 2);
        int value = aByte();
        if (choice < 3) {
            compare("empty", model::empty, x::empty);
        } else if (choice < 20) {
            compare("letter " + letter, () -> model.letter(letter), () -> x.letter(letter));
        } else if (choice < 43) {
            compare("put " + value, () -> model.put(value), () -> x.put(value));
        } else {
            int pattern = aPattern();
            compare("drop " + pattern, () -> model.drop(pattern), () -> x.drop(pattern));
        }
    }

    private void standPrograms() {
        int list = pick(0, 2);
        int kind = aKind();
        int program = pick(0, random.nextBoolean() ? 3 : 9);
        if (random.nextInt(3) == 0) {
            int none = random.nextInt(10) == 0 ? -1 : program;
            compare("setDefault " + list + " " + kind + " " + none, () -> model.setDefault(list, kind, none),
                    () -> x.setDefault(list, kind, none));
        } else {
            int stands = random.nextBoolean() ? 1 : pick(0, 2);
            compare("program " + list + " " + kind + " " + program + " " + stands,
                    () -> model.program(list, kind, program, stands),
                    () -> x.program(list, kind, program, stands));
        }
    }

    private void ask(int choice) {
        int kind = aKind();
        int other = aKind();
        int pattern = aPattern();
        int rule = aRule();
        int place = pick(0, 4);
        switch (choice) {
            case 0 -> compare("kinds", model::kinds, x::kinds);
            case 1 -> compare("isSpecial " + kind + " " + other, () -> model.isSpecial(kind, other),
                    () -> x.isSpecial(kind, other));
            case 2 -> compare("fits " + pattern, () -> model.fits(pattern), () -> x.fits(pattern));
            case 3 -> compare("fitsByTable " + pattern, () -> model.fits(pattern), () -> x.fitsByTable(pattern));
            case 4 -> compare("proves " + rule, () -> model.proves(rule), () -> x.proves(rule));
            case 5 -> compare("byName", model::byName, x::byName);
            case 6 -> compare("byBytes", model::byBytes, x::byBytes);
            case 7, 8 -> compare("guess", model::guess, x::guess);
            case 9 -> compare("programs " + kind, () -> model.programs(kind), () -> x.programs(kind));
            case 10 -> compare("programAt " + kind + " " + place, () -> model.programAt(kind, place),
                    () -> x.programAt(kind, place));
            default -> compare("opener " + kind, () -> model.opener(kind), () -> x.opener(kind));
        }
    }
}
