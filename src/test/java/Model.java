import java.util.ArrayList;
import java.util.Comparator;
import java.util.List;
import java.util.Optional;
import java.util.Set;
import java.util.TreeSet;

/** The document's words once more, written down as plainly as the library allows, to compare the class with. */
final class Model {
    private record Pattern(int number, int kind, int weight, List<Integer> tokens) {
    }

    private record Test(int level, int from, int to, int value, int mask) {
    }

    private record Rule(int number, int kind, int priority, List<Test> tests) {
    }

    private final List<Integer> parents = new ArrayList<>();
    private final List<Pattern> patterns = new ArrayList<>();
    private final List<Rule> rules = new ArrayList<>();
    private final List<Integer> name = new ArrayList<>();
    private final List<Integer> bytes = new ArrayList<>();
    private final int[][][] stands = new int[3][14][10];
    private final Integer[][] defaults = new Integer[3][14];
    private int patternsEver = 0;

    int patternsEver() {
        return patternsEver;
    }

    int rulesSoFar() {
        return rules.size();
    }

    private static void bound(boolean good) {
        if (!good) {
            throw new IndexOutOfBoundsException();
        }
    }

    private static void argue(boolean good) {
        if (!good) {
            throw new IllegalArgumentException();
        }
    }

    private static void state(boolean good) {
        if (!good) {
            throw new IllegalStateException();
        }
    }

    private static boolean in(int least, int value, int most) {
        return least <= value && value <= most;
    }

    private boolean isKind(int kind) {
        return in(0, kind, parents.size() - 1);
    }

    int kind(int parent) {
        bound(parent == -1 || isKind(parent));
        state(parents.size() < 14);
        parents.add(parent);
        return parents.size() - 1;
    }

    int pattern(int kind, int weight, int tokens, int first, int second) {
        bound(isKind(kind));
        argue(in(0, weight, 100) && in(0, tokens, 8) && first >= 0 && second >= 0);
        String digits = String.format("%012d", second).substring(4) + String.format("%012d", first).substring(4);
        List<Integer> row = new ArrayList<>();
        for (int end = 16; end > 16 - 2 * tokens; end -= 2) {
            row.add(Integer.parseInt(digits.substring(end - 2, end)));
        }
        argue(row.stream().allMatch(token -> token <= 11));
        state(patternsEver < 20);
        patterns.add(new Pattern(patternsEver, kind, weight, row));
        return patternsEver++;
    }

    private Pattern find(int number) {
        Optional<Pattern> found = patterns.stream().filter(pattern -> pattern.number == number).findAny();
        bound(found.isPresent());
        return found.get();
    }

    int drop(int pattern) {
        patterns.remove(find(pattern));
        return patterns.size();
    }

    int rule(int kind, int priority) {
        bound(isKind(kind));
        argue(in(0, priority, 100));
        state(rules.size() < 12);
        rules.add(new Rule(rules.size(), kind, priority, new ArrayList<>()));
        return rules.size() - 1;
    }

    int test(int rule, int level, int from, int to, int value, int mask) {
        bound(in(0, rule, rules.size() - 1));
        List<Test> tests = rules.get(rule).tests;
        int before = tests.isEmpty() ? -1 : tests.get(tests.size() - 1).level;
        argue(in(0, level, before + 1) && in(0, from, 15) && in(from, to, 15) && in(0, value, 255)
                && in(0, mask, 255));
        state(tests.size() < 6);
        tests.add(new Test(level, from, to, value, mask));
        return tests.size();
    }

    int kinds() {
        return parents.size();
    }

    private boolean special(int kind, int other) {
        return kind == other || parents.get(kind) != -1 && special(parents.get(kind), other);
    }

    boolean isSpecial(int kind, int other) {
        bound(isKind(kind) && isKind(other));
        return special(kind, other);
    }

    int letter(int letter) {
        argue(in(0, letter, 9));
        state(name.size() < 12);
        name.add(letter);
        return name.size();
    }

    int put(int value) {
        argue(in(0, value, 255));
        state(bytes.size() < 16);
        bytes.add(value);
        return bytes.size();
    }

    int empty() {
        int count = name.size() + bytes.size();
        name.clear();
        bytes.clear();
        return count;
    }

    private static boolean matches(List<Integer> tokens, List<Integer> letters) {
        if (tokens.isEmpty()) {
            return letters.isEmpty();
        }
        List<Integer> later = tokens.subList(1, tokens.size());
        if (tokens.get(0) == 10) {
            for (int taken = 0; taken <= letters.size(); taken++) {
                if (matches(later, letters.subList(taken, letters.size()))) {
                    return true;
                }
            }
            return false;
        }
        return !letters.isEmpty() && (tokens.get(0) == 11 || tokens.get(0).equals(letters.get(0)))
                && matches(later, letters.subList(1, letters.size()));
    }

    boolean fits(int pattern) {
        return matches(find(pattern).tokens, name);
    }

    private static boolean holds(Test test, List<Integer> bytes) {
        for (int place = test.from; place <= test.to; place++) {
            if (place < bytes.size() && (bytes.get(place) & test.mask) == test.value) {
                return true;
            }
        }
        return false;
    }

    private static int aboveOf(List<Test> tests, int place) {
        for (int ahead = place - 1; ahead >= 0; ahead--) {
            if (tests.get(ahead).level < tests.get(place).level) {
                return ahead;
            }
        }
        return -1;
    }

    private boolean leads(List<Test> tests, int place) {
        boolean anyBelow = false;
        boolean someLeads = false;
        for (int other = 0; other < tests.size(); other++) {
            if (aboveOf(tests, other) == place) {
                anyBelow = true;
                someLeads |= leads(tests, other);
            }
        }
        return holds(tests.get(place), bytes) && (!anyBelow || someLeads);
    }

    boolean proves(int rule) {
        bound(in(0, rule, rules.size() - 1));
        List<Test> tests = rules.get(rule).tests;
        for (int place = 0; place < tests.size(); place++) {
            if (tests.get(place).level == 0 && leads(tests, place)) {
                return true;
            }
        }
        return false;
    }

    private List<Pattern> fitting() {
        return patterns.stream()
                .sorted(Comparator.comparingInt((Pattern pattern) -> -pattern.weight)
                        .thenComparing(pattern -> -pattern.tokens.size())
                        .thenComparing(pattern -> pattern.number))
                .filter(pattern -> matches(pattern.tokens, name))
                .toList();
    }

    private Optional<Rule> proving() {
        return rules.stream()
                .filter(rule -> proves(rule.number))
                .max(Comparator.comparingInt(Rule::priority).thenComparing(rule -> -rule.number));
    }

    int byName() {
        return fitting().stream().findFirst().map(Pattern::kind).orElse(-1);
    }

    int byBytes() {
        return proving().map(Rule::kind).orElse(-1);
    }

    private boolean isText() {
        return bytes.stream().allMatch(value -> in(32, value, 126) || List.of(9, 10, 13).contains(value));
    }

    int guess() {
        Optional<Rule> proving = proving();
        if (proving.isEmpty()) {
            return byName() != -1 ? byName() : isText() ? -1 : -2;
        }
        int b = proving.get().kind;
        Optional<Pattern> more = fitting().stream().filter(pattern -> special(pattern.kind, b)).findFirst();
        if (more.isPresent()) {
            return more.get().kind;
        }
        return proving.get().priority >= 50 || fitting().isEmpty() ? b : byName();
    }

    int program(int list, int kind, int program, int standing) {
        bound(isKind(kind));
        argue(in(0, list, 2) && in(0, program, 9) && in(0, standing, 2));
        int before = stands[list][kind][program];
        stands[list][kind][program] = standing;
        return before;
    }

    int setDefault(int list, int kind, int program) {
        bound(isKind(kind));
        argue(in(0, list, 2) && in(-1, program, 9));
        Integer before = defaults[list][kind];
        defaults[list][kind] = program == -1 ? null : program;
        return before == null ? -1 : before;
    }

    private boolean opens(int kind, int program) {
        for (int list = 0; list < 3; list++) {
            boolean removed = false;
            for (int more = 0; more < list; more++) {
                removed |= stands[more][kind][program] == 2;
            }
            if (stands[list][kind][program] == 1 && !removed) {
                return true;
            }
        }
        return false;
    }

    private List<Integer> row(int kind) {
        Set<Integer> own = new TreeSet<>();
        for (int program = 0; program < 10; program++) {
            if (opens(kind, program)) {
                own.add(program);
            }
        }
        List<Integer> row = new ArrayList<>(own);
        if (parents.get(kind) != -1) {
            row(parents.get(kind)).stream().filter(program -> !own.contains(program)).forEach(row::add);
        }
        return row;
    }

    int programs(int kind) {
        bound(isKind(kind));
        return row(kind).size();
    }

    int programAt(int kind, int place) {
        bound(isKind(kind));
        bound(in(0, place, row(kind).size() - 1));
        return row(kind).get(place);
    }

    int opener(int kind) {
        bound(isKind(kind));
        for (int list = 0; list < 3; list++) {
            Integer program = defaults[list][kind];
            if (program != null && opens(kind, program)) {
                return program;
            }
        }
        return parents.get(kind) == -1 ? -1 : opener(parents.get(kind));
    }
}
