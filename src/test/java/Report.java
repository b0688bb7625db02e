import java.util.ArrayList;
import java.util.List;

/**
 * Tells all that an object answers in one respect, also by adding to it, so that the object is used up afterwards: no
 * report takes more than 300 calls, which leaves some 200 of the 512 for what came before.
 */
final class Report {
    static final String ALIKE = "alike";

    enum Respect {
        KINDS, NAME, OTHER_NAMES, PATTERNS, PATTERNS_OF_ANOTHER_NAME, BYTES, OTHER_BYTES, PROGRAMS,
        STANDINGS_OF_LOW_KINDS, STANDINGS_OF_HIGH_KINDS
    }

    private static final String[] NAMES = {"", "0", "9", "31", "314159265358", "00000000"};
    private static final int[][] BYTES = {
        {}, {0}, {255}, {137, 80, 78, 71, 13, 10, 26, 10, 0, 0, 0, 13, 73, 72, 68, 82}, {1, 2, 3, 4, 5, 6, 7},
    };

    private final KindGuesser x;
    private final List<String> rows = new ArrayList<>();

    private Report(KindGuesser x) {
        this.x = x;
    }

    static List<String> of(Respect respect, KindGuesser x) {
        Report report = new Report(x);
        switch (respect) {
            case KINDS -> report.tellKinds();
            case NAME -> report.tellName();
            case OTHER_NAMES -> report.tellOtherNames();
            case PATTERNS -> report.tellDrops();
            case PATTERNS_OF_ANOTHER_NAME -> {
                x.empty();
                Written.name(x, "0");
                report.tellDrops();
            }
            case BYTES -> report.tellBytes();
            case OTHER_BYTES -> report.tellOtherBytes();
            case PROGRAMS -> report.tellPrograms();
            case STANDINGS_OF_LOW_KINDS -> report.tellStandings(0, 6);
            default -> report.tellStandings(7, 13);
        }
        return report.rows;
    }

    static String firstDifference(List<String> due, List<String> got) {
        for (int row = 0; row < Math.max(due.size(), got.size()); row++) {
            String wanted = row < due.size() ? due.get(row) : "nothing";
            String told = row < got.size() ? got.get(row) : "nothing";
            if (!wanted.equals(told)) {
                return told + " where its twin told " + wanted;
            }
        }
        return ALIKE;
    }

    private void tell(String what, Checks.Call call) {
        rows.add(what + "=" + Checks.answerOf(call));
    }

    private void tellKinds() {
        tell("kinds", x::kinds);
        for (int kind = 0; kind < 14; kind++) {
            for (int other = 0; other < 14; other++) {
                int k = kind;
                int o = other;
                tell("isSpecial " + k + " " + o, () -> x.isSpecial(k, o));
            }
        }
        tell("the next kind", () -> x.kind(-1));
        tell("kinds after it", x::kinds);
    }

    private void tellPatterns() {
        tell("byName", x::byName);
        for (int pattern = 0; pattern < 20; pattern++) {
            int p = pattern;
            tell("fits " + p, () -> x.fits(p));
        }
    }

    /** Tells the kinds of all patterns that fit the name, by dropping one after the other. */
    private void tellDrops() {
        tell("byName", x::byName);
        for (int pattern = 0; pattern < 20; pattern++) {
            int p = pattern;
            tell("drop " + p, () -> x.drop(p));
            tell("byName after it", x::byName);
        }
    }

    private void tellName() {
        tellPatterns();
        tell("guess", x::guess);
        for (int pattern = 0; pattern < 20; pattern++) {
            int p = pattern;
            tell("fitsByTable " + p, () -> x.fitsByTable(p));
        }
        tell("the next letter", () -> x.letter(0));
        tellPatterns();
        tell("the next pattern", () -> x.pattern(0, 0, 0, 0, 0));
    }

    private void tellOtherNames() {
        for (String name : NAMES) {
            tell("empty", x::empty);
            Written.name(x, name);
            tell("name", () -> name);
            tellPatterns();
        }
    }

    private void tellRules() {
        tell("byBytes", x::byBytes);
        tell("guess", x::guess);
        for (int rule = 0; rule < 12; rule++) {
            int r = rule;
            tell("proves " + r, () -> x.proves(r));
        }
    }

    private void tellBytes() {
        tellRules();
        tell("the next byte", () -> x.put(0));
        tellRules();
        tell("the next rule", () -> x.rule(0, 0));
        for (int rule = 0; rule < 12; rule++) {
            for (int level = 6; level >= 0; level--) {
                int r = rule;
                int l = level;
                tell("the next test of " + r + " at " + l, () -> x.test(r, l, 0, 0, 0, 0));
            }
        }
        tell("empty", x::empty);
    }

    private void tellOtherBytes() {
        for (int[] values : BYTES) {
            tell("empty", x::empty);
            Written.bytes(x, values);
            tell("bytes", () -> values.length);
            tellRules();
        }
    }

    private void tellPrograms() {
        for (int kind = 0; kind < 14; kind++) {
            int k = kind;
            tell("programs " + k, () -> x.programs(k));
            tell("opener " + k, () -> x.opener(k));
            for (int place = 0; place < 10; place++) {
                int p = place;
                tell("programAt " + k + " " + p, () -> x.programAt(k, p));
            }
        }
    }

    private void tellStandings(int least, int greatest) {
        for (int kind = least; kind <= greatest; kind++) {
            for (int list = 0; list < 3; list++) {
                int k = kind;
                int l = list;
                tell("default " + l + " " + k, () -> x.setDefault(l, k, -1));
                for (int program = 0; program < 10; program++) {
                    int p = program;
                    tell("program " + l + " " + k + " " + p, () -> x.program(l, k, p, 0));
                }
            }
        }
    }
}
