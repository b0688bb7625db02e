/** Promises 18 to 22: program, setDefault, programs, programAt, opener. */
public final class ProgramsTest {
    private static final Checks CHECKS = new Checks();
    private static final int ADDED = 1;
    private static final int REMOVED = 2;

    public static void main(String[] args) {
        answersHowItStood();
        answersTheDefaultBefore();
        opensByAllStandings();
        ordersProgramsUpward();
        takesTheDefaultThatCountsMost();
        takesDefaultsUpward();
        goesUpALongLine();
        refusesWrongPrograms();
        refusesWrongDefaults();
        refusesWrongPlaces();
        CHECKS.close();
    }

    /** Kinds: 0, of it 1, of 1 also 2, and 3 by itself. */
    private static KindGuesser family() {
        KindGuesser x = new KindGuesser();
        x.kind(-1);
        x.kind(0);
        x.kind(1);
        x.kind(-1);
        return x;
    }

    private static KindGuesser withPrograms() {
        KindGuesser x = family();
        x.program(0, 0, 4, ADDED);
        x.program(1, 1, 9, ADDED);
        x.program(2, 1, 0, REMOVED);
        x.setDefault(2, 1, 9);
        return x;
    }

    private static String row(KindGuesser x, int kind) {
        StringBuilder text = new StringBuilder();
        for (int place = 0; place < x.programs(kind); place++) {
            text.append(x.programAt(kind, place));
        }
        text.append(Checks.answerOf(() -> x.programAt(kind, x.programs(kind))));
        return text.toString();
    }

    private static void checkRow(String due, KindGuesser x, int kind) {
        CHECKS.same("programs of kind " + kind, due + "throws.IndexOutOfBoundsException", row(x, kind));
    }

    private static void answersHowItStood() {
        KindGuesser x = family();
        int[] stands = {1, 2, 0, 2, 1, 1, 0};
        for (int list = 0; list < 3; list++) {
            int before = 0;
            for (int stand : stands) {
                CHECKS.same("program in list " + list, before, x.program(list, 1, 7, stand));
                before = stand;
            }
        }
        for (int list = 0; list < 3; list++) {
            for (int program = 0; program < 10; program++) {
                CHECKS.same("first", 0, x.program(list, 2, program, (list + program) % 3));
                CHECKS.same("first of another kind", 0, x.program(list, 3, program, (list + program + 1) % 3));
            }
        }
        for (int list = 0; list < 3; list++) {
            for (int program = 0; program < 10; program++) {
                CHECKS.same("second", (list + program) % 3, x.program(list, 2, program, 0));
                CHECKS.same("second of another kind", (list + program + 1) % 3, x.program(list, 3, program, 0));
            }
        }
    }

    private static void answersTheDefaultBefore() {
        KindGuesser x = family();
        for (int list = 0; list < 3; list++) {
            for (int kind = 0; kind < 4; kind++) {
                CHECKS.same("no default yet", -1, x.setDefault(list, kind, 3 * list + kind));
            }
        }
        for (int list = 0; list < 3; list++) {
            for (int kind = 0; kind < 4; kind++) {
                CHECKS.same("default before", 3 * list + kind, x.setDefault(list, kind, 0));
                CHECKS.same("default 0 before", 0, x.setDefault(list, kind, -1));
                CHECKS.same("none before", -1, x.setDefault(list, kind, -1));
            }
        }
    }

    private static void opensByAllStandings() {
        for (int standings = 0; standings < 27; standings++) {
            int[] stands = {standings / 9, standings / 3 % 3, standings % 3};
            KindGuesser x = family();
            for (int list = 0; list < 3; list++) {
                x.program(list, 1, 6, stands[list]);
            }
            boolean due = stands[0] == ADDED
                    || stands[1] == ADDED && stands[0] != REMOVED
                    || stands[2] == ADDED && stands[1] != REMOVED && stands[0] != REMOVED;
            checkRow(due ? "6" : "", x, 1);
            checkRow(due ? "6" : "", x, 2);
            checkRow("", x, 0);
            checkRow("", x, 3);
            x.setDefault(1, 1, 6);
            CHECKS.same("opener with standings " + standings, due ? 6 : -1, x.opener(1));
        }
    }

    private static void ordersProgramsUpward() {
        KindGuesser x = family();
        x.program(2, 0, 9, ADDED);
        x.program(0, 0, 0, ADDED);
        x.program(1, 0, 5, ADDED);
        x.program(2, 1, 8, ADDED);
        x.program(0, 1, 5, ADDED);
        x.program(1, 2, 9, ADDED);
        x.program(1, 2, 2, ADDED);
        checkRow("059", x, 0);
        checkRow("5809", x, 1);
        checkRow("29580", x, 2);
        checkRow("", x, 3);
        x.program(0, 2, 0, REMOVED);
        checkRow("29580", x, 2);
        x.program(0, 1, 8, REMOVED);
        checkRow("2950", x, 2);
        x.program(0, 0, 5, REMOVED);
        checkRow("09", x, 0);
        checkRow("509", x, 1);
        checkRow("2950", x, 2);
        x.program(0, 1, 5, 0);
        checkRow("290", x, 2);
        for (int program = 0; program < 10; program++) {
            x.program(2, 3, program, ADDED);
        }
        checkRow("0123456789", x, 3);
    }

    private static void takesTheDefaultThatCountsMost() {
        KindGuesser x = family();
        CHECKS.same("opener of nothing", -1, x.opener(0));
        x.setDefault(1, 0, 4);
        CHECKS.same("a default that does not open", -1, x.opener(0));
        x.program(2, 0, 4, ADDED);
        CHECKS.same("a default that another list adds", 4, x.opener(0));
        x.program(2, 0, 5, ADDED);
        x.setDefault(2, 0, 5);
        CHECKS.same("a default of a list that counts less", 4, x.opener(0));
        x.setDefault(0, 0, 6);
        CHECKS.same("a default that counts more, but does not open", 4, x.opener(0));
        x.program(1, 0, 6, ADDED);
        CHECKS.same("when it opens", 6, x.opener(0));
        x.program(0, 0, 6, REMOVED);
        CHECKS.same("when it is removed", 4, x.opener(0));
        x.program(0, 0, 4, REMOVED);
        CHECKS.same("when the next one is removed too", 5, x.opener(0));
        x.setDefault(2, 0, -1);
        CHECKS.same("without the last one", -1, x.opener(0));
        x.setDefault(1, 0, 5);
        CHECKS.same("another one instead", 5, x.opener(0));
    }

    private static void takesDefaultsUpward() {
        KindGuesser x = family();
        x.program(2, 0, 0, ADDED);
        x.setDefault(2, 0, 0);
        CHECKS.same("of the grandparent, program 0", 0, x.opener(2));
        CHECKS.same("of the parent, program 0", 0, x.opener(1));
        CHECKS.same("of none", -1, x.opener(3));
        x.setDefault(0, 2, 0);
        x.program(0, 1, 7, ADDED);
        x.setDefault(0, 1, 0);
        CHECKS.same("0 opens neither kind itself, but the grandparent", 0, x.opener(2));
        x.setDefault(2, 1, 7);
        CHECKS.same("of the parent, a list that counts less", 7, x.opener(2));
        CHECKS.same("of the kind itself", 7, x.opener(1));
        CHECKS.same("of the general kind", 0, x.opener(0));
        x.setDefault(2, 2, 7);
        x.program(0, 2, 7, REMOVED);
        CHECKS.same("removed for the kind, not for its parent", 7, x.opener(2));
        x.program(1, 2, 9, ADDED);
        x.setDefault(0, 2, 9);
        CHECKS.same("its own", 9, x.opener(2));
    }

    private static void goesUpALongLine() {
        KindGuesser x = new KindGuesser();
        for (int kind = 0; kind < 14; kind++) {
            x.kind(kind - 1);
        }
        x.program(2, 0, 3, ADDED);
        x.setDefault(2, 0, 3);
        x.program(1, 13, 8, ADDED);
        checkRow("83", x, 13);
        checkRow("3", x, 12);
        CHECKS.same("opener of 13", 3, x.opener(13));
        x.setDefault(2, 13, 8);
        CHECKS.same("opener of 13, its own", 8, x.opener(13));
        CHECKS.same("opener of 12", 3, x.opener(12));
    }

    private static void refusesWrongPrograms() {
        int[] noKinds = {-1, 4, 14, Integer.MIN_VALUE, Integer.MAX_VALUE};
        for (int kind : noKinds) {
            CHECKS.outOfBounds("program of kind " + kind, ProgramsTest::withPrograms, x -> x.program(0, kind, 0, 1));
            CHECKS.outOfBounds("kind ahead of all else", ProgramsTest::withPrograms, x -> x.program(3, kind, 10, 3));
        }
        int[] noLists = {-1, 3, Integer.MIN_VALUE, Integer.MAX_VALUE};
        for (int list : noLists) {
            CHECKS.badArgument("program in list " + list, ProgramsTest::withPrograms, x -> x.program(list, 0, 0, 1));
            CHECKS.badArgument("program stands " + list, ProgramsTest::withPrograms, x -> x.program(0, 0, 0, list));
        }
        int[] noPrograms = {-1, 10, Integer.MIN_VALUE, Integer.MAX_VALUE};
        for (int program : noPrograms) {
            CHECKS.badArgument("program " + program, ProgramsTest::withPrograms, x -> x.program(0, 0, program, 1));
        }
    }

    private static void refusesWrongDefaults() {
        int[] noKinds = {-1, 4, 14, Integer.MIN_VALUE, Integer.MAX_VALUE};
        for (int kind : noKinds) {
            CHECKS.outOfBounds("default of kind " + kind, ProgramsTest::withPrograms, x -> x.setDefault(0, kind, 0));
            CHECKS.outOfBounds("kind ahead of all else", ProgramsTest::withPrograms, x -> x.setDefault(3, kind, 10));
        }
        int[] noLists = {-1, 3, Integer.MIN_VALUE, Integer.MAX_VALUE};
        for (int list : noLists) {
            CHECKS.badArgument("default of list " + list, ProgramsTest::withPrograms, x -> x.setDefault(list, 0, 0));
        }
        int[] noPrograms = {-2, 10, Integer.MIN_VALUE, Integer.MAX_VALUE};
        for (int program : noPrograms) {
            CHECKS.badArgument("default " + program, ProgramsTest::withPrograms, x -> x.setDefault(0, 0, program));
        }
    }

    private static void refusesWrongPlaces() {
        int[] noKinds = {-1, 4, 14, Integer.MIN_VALUE, Integer.MAX_VALUE};
        for (int kind : noKinds) {
            CHECKS.outOfBounds("programs of " + kind, ProgramsTest::withPrograms, x -> x.programs(kind));
            CHECKS.outOfBounds("programAt of " + kind, ProgramsTest::withPrograms, x -> x.programAt(kind, 0));
            CHECKS.outOfBounds("opener of " + kind, ProgramsTest::withPrograms, x -> x.opener(kind));
        }
        int[] noPlaces = {-1, 2, 9, 10, Integer.MIN_VALUE, Integer.MAX_VALUE};
        for (int place : noPlaces) {
            CHECKS.outOfBounds("programAt " + place, ProgramsTest::withPrograms, x -> x.programAt(1, place));
            CHECKS.outOfBounds("programAt " + place + " of two up", ProgramsTest::withPrograms,
                    x -> x.programAt(2, place));
        }
        CHECKS.outOfBounds("programAt 0 of none", ProgramsTest::withPrograms, x -> x.programAt(3, 0));
    }
}
