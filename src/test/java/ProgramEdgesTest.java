/** The boundary cases of the promises 18 to 22, sentence by sentence: programs and defaults. */
public final class ProgramEdgesTest {
    private static final Checks CHECKS = new Checks();
    private static final int ADDED = 1;
    private static final int REMOVED = 2;

    public static void main(String[] args) {
        takesEachListKindAndProgram();
        takesEachStanding();
        refusesAProgramForNoKind();
        refusesOtherLists();
        refusesOtherPrograms();
        refusesOtherStandings();
        throwsTheFirstThatFitsAProgram();
        takesEachDefault();
        takesNoneForADefault();
        refusesADefaultOfNoKind();
        refusesDefaultsOfOtherLists();
        refusesOtherDefaults();
        throwsTheFirstThatFitsADefault();
        opensByTheLists();
        countsFromNoneToAll();
        refusesToCountForNoKind();
        answersEachPlace();
        ordersByRisingNumbers();
        tellsEachOnce();
        goesUpToTheLast();
        refusesPlacesOfNoKind();
        refusesOtherPlaces();
        answersNoDefault();
        takesTheListThatCountsMost();
        passesOverWhatDoesNotOpen();
        takesTheDefaultOfAParent();
        refusesTheDefaultOfNoKind();
        CHECKS.close();
    }

    private static void takesEachListKindAndProgram() {
        CHECKS.about("18: list: 0 to 2; program: 0 to 9; of each kind, the first or the last one");
        for (int low = 0; low < 14; low += 7) {
            KindGuesser x = States.withKinds(14);
            for (int place = 0; place < 210; place++) {
                int kind = low + place / 30;
                CHECKS.same("first", 0, x.program(place % 3, kind, place / 3 % 10, (place + place / 9) % 3));
            }
            for (int place = 0; place < 210; place++) {
                int kind = low + place / 30;
                CHECKS.same("program " + place / 3 % 10 + " for " + kind + " in " + place % 3,
                        (place + place / 9) % 3, x.program(place % 3, kind, place / 3 % 10, 0));
            }
        }
    }

    private static void takesEachStanding() {
        CHECKS.about("18: stands: 0 not at all, 1 added, 2 removed; returns how it stood before");
        for (int before = 0; before <= 2; before++) {
            for (int after = 0; after <= 2; after++) {
                KindGuesser x = States.withKinds(2);
                x.program(1, 0, 4, ADDED);
                CHECKS.same("it stood not at all", 0, x.program(0, 0, 4, before));
                CHECKS.same("programs with " + before, before == REMOVED ? 0 : 1, x.programs(0));
                CHECKS.same("it stood", before, x.program(0, 0, 4, after));
                CHECKS.same("programs with " + after, after == REMOVED ? 0 : 1, x.programs(0));
                CHECKS.same("it stands", after, x.program(0, 0, 4, 0));
                CHECKS.same("the other list", ADDED, x.program(1, 0, 4, 0));
                CHECKS.same("programs with none", 0, x.programs(0));
            }
        }
    }

    private static void refusesAProgramForNoKind() {
        CHECKS.about("18: IndexOutOfBoundsException if there is no such kind");
        for (int kind : States.outside(0, 1)) {
            CHECKS.outOfBounds("program for " + kind, States::small, x -> x.program(0, kind, 0, ADDED));
        }
        for (int kind : States.outside(0, 13)) {
            CHECKS.outOfBounds("program for " + kind, States::full, x -> x.program(2, kind, 9, REMOVED));
        }
    }

    private static void refusesOtherLists() {
        CHECKS.about("18: IllegalArgumentException if list is out of range");
        for (int list : States.outside(0, 2)) {
            CHECKS.badArgument("list " + list, States::small, x -> x.program(list, 0, 0, REMOVED));
            CHECKS.badArgument("list " + list, States::full, x -> x.program(list, 13, 9, ADDED));
        }
    }

    private static void refusesOtherPrograms() {
        CHECKS.about("18: IllegalArgumentException if program is out of range");
        for (int program : States.outside(0, 9)) {
            CHECKS.badArgument("program " + program, States::small, x -> x.program(0, 0, program, REMOVED));
            CHECKS.badArgument("program " + program, States::full, x -> x.program(2, 13, program, ADDED));
        }
    }

    private static void refusesOtherStandings() {
        CHECKS.about("18: IllegalArgumentException if stands is out of range");
        for (int stands : States.outside(0, 2)) {
            CHECKS.badArgument("stands " + stands, States::small, x -> x.program(0, 0, 0, stands));
            CHECKS.badArgument("stands " + stands, States::full, x -> x.program(2, 13, 9, stands));
        }
    }

    private static void throwsTheFirstThatFitsAProgram() {
        CHECKS.about("18: of several exceptions it is the first one of the throws clause");
        for (int kind : States.outside(0, 13)) {
            CHECKS.outOfBounds("no kind, no list", States::full, x -> x.program(3, kind, 0, 0));
            CHECKS.outOfBounds("no kind, no program", States::full, x -> x.program(0, kind, 10, 0));
            CHECKS.outOfBounds("no kind, no standing", States::full, x -> x.program(0, kind, 0, 3));
            CHECKS.outOfBounds("no kind, all wrong", States::full, x -> x.program(-1, kind, -1, -1));
        }
    }

    private static void takesEachDefault() {
        CHECKS.about("19: list: 0 to 2; program: 0 to 9; returns the default before");
        KindGuesser x = States.withKinds(14);
        for (int round = 0; round < 11; round++) {
            for (int place = 0; place < 42; place++) {
                int due = round == 0 ? -1 : (place + round - 1) % 10;
                CHECKS.same("default of " + place / 3 + " in " + place % 3, due,
                        x.setDefault(place % 3, place / 3, (place + round) % 10));
            }
        }
    }

    private static void takesNoneForADefault() {
        CHECKS.about("19: or -1 for none; -1 if there was none");
        for (int list = 0; list <= 2; list++) {
            for (int kind = 0; kind < 14; kind++) {
                for (int program = 0; program <= 9; program++) {
                    KindGuesser x = States.withKinds(14);
                    CHECKS.same("none at first", -1, x.setDefault(list, kind, -1));
                    CHECKS.same("none after none", -1, x.setDefault(list, kind, program));
                    CHECKS.same("a program", program, x.setDefault(list, kind, -1));
                    CHECKS.same("none after it", -1, x.setDefault(list, kind, -1));
                    x.program(list, kind, program, ADDED);
                    CHECKS.same("opener with none", -1, x.opener(kind));
                    x.setDefault(list, kind, program);
                    CHECKS.same("opener with it", program, x.opener(kind));
                    x.setDefault(list, kind, -1);
                    CHECKS.same("opener with none again", -1, x.opener(kind));
                }
            }
        }
    }

    private static void refusesADefaultOfNoKind() {
        CHECKS.about("19: IndexOutOfBoundsException if there is no such kind");
        for (int kind : States.outside(0, 1)) {
            CHECKS.outOfBounds("default of " + kind, States::small, x -> x.setDefault(0, kind, -1));
        }
        for (int kind : States.outside(0, 13)) {
            CHECKS.outOfBounds("default of " + kind, States::full, x -> x.setDefault(2, kind, 9));
        }
    }

    private static void refusesDefaultsOfOtherLists() {
        CHECKS.about("19: IllegalArgumentException if list is out of range");
        for (int list : States.outside(0, 2)) {
            CHECKS.badArgument("list " + list, States::small, x -> x.setDefault(list, 0, -1));
            CHECKS.badArgument("list " + list, States::full, x -> x.setDefault(list, 13, 9));
        }
    }

    private static void refusesOtherDefaults() {
        CHECKS.about("19: IllegalArgumentException if program is out of range");
        for (int program : States.outside(-1, 9)) {
            CHECKS.badArgument("program " + program, States::small, x -> x.setDefault(0, 0, program));
            CHECKS.badArgument("program " + program, States::full, x -> x.setDefault(2, 13, program));
        }
    }

    private static void throwsTheFirstThatFitsADefault() {
        CHECKS.about("19: of several exceptions it is the first one of the throws clause");
        for (int kind : States.outside(0, 13)) {
            CHECKS.outOfBounds("no kind, no list", States::full, x -> x.setDefault(3, kind, 0));
            CHECKS.outOfBounds("no kind, no program", States::full, x -> x.setDefault(0, kind, 10));
            CHECKS.outOfBounds("no kind, all wrong", States::full, x -> x.setDefault(-1, kind, -2));
        }
    }

    private static void opensByTheLists() {
        CHECKS.about("Terms: added for it in some list, and removed in no list that counts more");
        for (int standings = 0; standings < 27; standings++) {
            KindGuesser x = States.withKinds(2);
            x.program(0, 1, 6, standings / 9);
            x.program(1, 1, 6, standings / 3 % 3);
            x.program(2, 1, 6, standings % 3);
            // Written as three digits to the base of three: how it stands in the lists 0, 1 and 2.
            boolean due = switch (standings) {
                case 1, 3, 4, 5, 9, 10, 11, 12, 13, 14, 15, 16, 17 -> true;
                default -> false;
            };
            String digits = "" + standings / 9 + standings / 3 % 3 + standings % 3;
            CHECKS.same("programs by " + digits, due ? 1 : 0, x.programs(1));
            CHECKS.same("programs of the parent by " + digits, 0, x.programs(0));
            for (int list = 0; list <= 2; list++) {
                x.setDefault(list, 1, 6);
                CHECKS.same("opener of list " + list + " by " + digits, due ? 6 : -1, x.opener(1));
                x.setDefault(list, 1, -1);
            }
        }
    }

    private static void countsFromNoneToAll() {
        CHECKS.about("20: returns how many programs a kind has: none to 10");
        for (int kind = 0; kind < 14; kind++) {
            KindGuesser x = States.withKinds(14);
            CHECKS.same("none", 0, x.programs(kind));
            for (int program = 0; program <= 9; program++) {
                x.program(program % 3, kind, program, ADDED);
                CHECKS.same("with " + program, program + 1, x.programs(kind));
            }
            for (int program = 0; program <= 9; program++) {
                x.program(program % 3, kind, program, program % 2 == 0 ? REMOVED : 0);
                CHECKS.same("without " + program, 9 - program, x.programs(kind));
            }
        }
    }

    private static void refusesToCountForNoKind() {
        CHECKS.about("20: IndexOutOfBoundsException if there is no such kind");
        for (int kind : States.outside(0, 1)) {
            CHECKS.outOfBounds("programs of " + kind, States::small, x -> x.programs(kind));
        }
        for (int kind : States.outside(0, 13)) {
            CHECKS.outOfBounds("programs of " + kind, States::full, x -> x.programs(kind));
        }
    }

    private static void row(String due, KindGuesser x, int kind) {
        CHECKS.same("programs of " + kind, due.length(), x.programs(kind));
        for (int place = 0; place < due.length(); place++) {
            CHECKS.same("programAt " + place + " of " + kind, due.charAt(place) - '0', x.programAt(kind, place));
        }
        CHECKS.same("programAt behind the last one of " + kind, "throws.IndexOutOfBoundsException",
                Checks.answerOf(() -> x.programAt(kind, due.length())));
        CHECKS.same("programAt ahead of the first one of " + kind, "throws.IndexOutOfBoundsException",
                Checks.answerOf(() -> x.programAt(kind, -1)));
    }

    private static void answersEachPlace() {
        CHECKS.about("21: place: from 0, to the last one that it has");
        KindGuesser x = States.line(14);
        row("", x, 0);
        row("", x, 13);
        x.program(2, 13, 9, ADDED);
        row("9", x, 13);
        x.program(0, 13, 0, ADDED);
        row("09", x, 13);
        for (int program = 0; program <= 9; program++) {
            x.program(1, 0, program, ADDED);
        }
        row("0123456789", x, 0);
        row("0912345678", x, 13);
    }

    private static void ordersByRisingNumbers() {
        CHECKS.about("Terms: those that open it, by rising numbers, then those that open its parent");
        KindGuesser x = States.line(2);
        for (int program : new int[] {9, 3, 6}) {
            x.program(program % 2, 1, program, ADDED);
        }
        for (int program : new int[] {8, 0, 4}) {
            x.program(2, 0, program, ADDED);
        }
        row("369048", x, 1);
        row("048", x, 0);
    }

    private static void tellsEachOnce() {
        CHECKS.about("Terms: but not it, and so on up, each once");
        KindGuesser x = States.line(4);
        for (int kind = 0; kind < 4; kind++) {
            x.program(0, kind, 5, ADDED);
            x.program(1, kind, kind, ADDED);
        }
        x.program(2, 0, 9, ADDED);
        x.program(2, 2, 9, ADDED);
        row("059", x, 0);
        row("1509", x, 1);
        row("259" + "1" + "0", x, 2);
        row("35" + "29" + "1" + "0", x, 3);
        x.program(0, 3, 9, REMOVED);
        row("35" + "29" + "1" + "0", x, 3);
        x.program(0, 2, 9, REMOVED);
        row("35" + "2" + "1" + "09", x, 3);
    }

    private static void goesUpToTheLast() {
        CHECKS.about("Terms: and so on up, to the last of 14 kinds");
        KindGuesser x = States.line(14);
        for (int kind = 0; kind < 10; kind++) {
            x.program(0, kind, kind, ADDED);
        }
        row("9876543210", x, 13);
        row("9876543210", x, 9);
        row("876543210", x, 8);
        row("0", x, 0);
        KindGuesser apart = States.withKinds(14);
        apart.program(0, 0, 1, ADDED);
        row("1", apart, 7);
        row("", apart, 8);
        row("", apart, 13);
    }

    private static void refusesPlacesOfNoKind() {
        CHECKS.about("21: IndexOutOfBoundsException if there is no such kind");
        for (int kind : States.outside(0, 1)) {
            CHECKS.outOfBounds("programAt of " + kind, States::small, x -> x.programAt(kind, 0));
        }
        for (int kind : States.outside(0, 13)) {
            CHECKS.outOfBounds("programAt of " + kind, States::full, x -> x.programAt(kind, 0));
            CHECKS.outOfBounds("programAt -1 of " + kind, States::full, x -> x.programAt(kind, -1));
        }
    }

    private static KindGuesser allAndNone() {
        KindGuesser x = States.line(3);
        x.kind(-1);
        for (int program = 0; program <= 9; program++) {
            x.program(0, program % 3, program, ADDED);
            x.setDefault(program % 3, program % 4, program);
        }
        return x;
    }

    private static void refusesOtherPlaces() {
        CHECKS.about("21: IndexOutOfBoundsException if it has not so many");
        CHECKS.taken("the last one of 10", 9, ProgramEdgesTest::allAndNone, x -> x.programAt(2, 9));
        CHECKS.taken("the first one of 10", 2, ProgramEdgesTest::allAndNone, x -> x.programAt(2, 0));
        for (int place : States.outside(0, 9)) {
            CHECKS.outOfBounds("programAt " + place + " of 10", ProgramEdgesTest::allAndNone,
                    x -> x.programAt(2, place));
        }
        for (int place : States.outside(0, 3)) {
            CHECKS.outOfBounds("programAt " + place + " of 4", ProgramEdgesTest::allAndNone,
                    x -> x.programAt(0, place));
        }
        for (int place : States.outside(0, -1)) {
            CHECKS.outOfBounds("programAt " + place + " of none", ProgramEdgesTest::allAndNone,
                    x -> x.programAt(3, place));
        }
        CHECKS.outOfBounds("programAt 0 of none", ProgramEdgesTest::allAndNone, x -> x.programAt(3, 0));
        for (int kind = 0; kind < 14; kind++) {
            int k = kind;
            int count = States.full().programs(kind);
            CHECKS.outOfBounds("programAt " + count + " of " + k, States::full, x -> x.programAt(k, count));
            CHECKS.outOfBounds("programAt -1 of " + k, States::full, x -> x.programAt(k, -1));
        }
    }

    private static void answersNoDefault() {
        CHECKS.about("Terms: -1 without any");
        for (int kind = 0; kind < 14; kind++) {
            KindGuesser x = States.line(14);
            CHECKS.same("nothing there yet", -1, x.opener(kind));
            x.program(0, kind, 0, ADDED);
            CHECKS.same("a program, no default", -1, x.opener(kind));
            x.setDefault(0, kind, 9);
            CHECKS.same("a default that does not open it", -1, x.opener(kind));
            x.setDefault(0, kind, 0);
            CHECKS.same("a default", 0, x.opener(kind));
            x.program(0, kind, 0, REMOVED);
            CHECKS.same("a default that is removed", -1, x.opener(kind));
        }
    }

    private static void takesTheListThatCountsMost() {
        CHECKS.about("Terms: the default of a kind is that of the list that counts most");
        for (int set = 1; set < 8; set++) {
            KindGuesser x = States.withKinds(1);
            for (int list = 2; list >= 0; list--) {
                x.program(2 - list, 0, 7 + list, ADDED);
                x.setDefault(list, 0, (set >> list & 1) == 1 ? 7 + list : -1);
            }
            CHECKS.same("defaults of the lists " + set, 7 + Integer.numberOfTrailingZeros(set), x.opener(0));
        }
    }

    private static void passesOverWhatDoesNotOpen() {
        CHECKS.about("Terms: and has one that opens the kind");
        for (int open = 0; open < 8; open++) {
            KindGuesser x = States.line(2);
            for (int list = 0; list <= 2; list++) {
                x.setDefault(list, 1, 7 + list);
                x.program(2, 0, 7 + list, ADDED);
                x.program(list, 1, 7 + list, (open >> list & 1) == 1 ? ADDED : REMOVED);
            }
            int due = open == 0 ? -1 : 7 + Integer.numberOfTrailingZeros(open);
            CHECKS.same("defaults that open it " + open, due, x.opener(1));
        }
        KindGuesser x = States.line(2);
        x.program(0, 0, 3, ADDED);
        x.setDefault(0, 1, 3);
        CHECKS.same("one that opens the parent alone", -1, x.opener(1));
        x.program(2, 1, 3, ADDED);
        CHECKS.same("one that a list that counts less adds", 3, x.opener(1));
    }

    private static void takesTheDefaultOfAParent() {
        CHECKS.about("Terms: if there is none, the default of its parent, and so on");
        for (int above = 0; above < 14; above++) {
            KindGuesser x = States.line(14);
            x.program(2, above, 0, ADDED);
            x.setDefault(2, above, 0);
            for (int kind = 0; kind < 14; kind++) {
                CHECKS.same("default of " + above + " for " + kind, kind >= above ? 0 : -1, x.opener(kind));
            }
            x.program(0, 13, 9, ADDED);
            x.setDefault(2, 13, 9);
            CHECKS.same("its own ahead of it", 9, x.opener(13));
            x.program(0, 13, 0, REMOVED);
            x.setDefault(2, 13, -1);
            CHECKS.same("removed for the kind alone", above == 13 ? -1 : 0, x.opener(13));
        }
        KindGuesser apart = States.withKinds(14);
        apart.program(0, 0, 1, ADDED);
        apart.setDefault(0, 0, 1);
        CHECKS.same("of another tree", -1, apart.opener(8));
        CHECKS.same("of the same tree", 1, apart.opener(7));
    }

    private static void refusesTheDefaultOfNoKind() {
        CHECKS.about("22: IndexOutOfBoundsException if there is no such kind");
        for (int kind : States.outside(0, 1)) {
            CHECKS.outOfBounds("opener of " + kind, States::small, x -> x.opener(kind));
        }
        for (int kind : States.outside(0, 13)) {
            CHECKS.outOfBounds("opener of " + kind, States::full, x -> x.opener(kind));
        }
    }
}
