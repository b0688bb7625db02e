/** The boundary cases of the promises 1, 2, 7 and 8, sentence by sentence: a new object, kind, kinds, isSpecial. */
public final class KindEdgesTest {
    private static final Checks CHECKS = new Checks();

    public static void main(String[] args) {
        beginsWithoutKinds();
        beginsWithoutPatterns();
        beginsWithoutRules();
        beginsWithAnEmptyFile();
        sharesNothing();
        answersTheLastCall();
        takesAnEarlierKindOrNone();
        answersTheNumber();
        refusesWhatIsNoKind();
        refusesTheFifteenth();
        looksAtTheParentFirst();
        countsKinds();
        tellsOfItself();
        tellsOfItsParent();
        tellsOfAllAbove();
        tellsNothingElse();
        refusesNoSuchKind();
        refusesNoSuchOther();
        CHECKS.close();
    }

    private static void beginsWithoutKinds() {
        CHECKS.about("1: begins without kinds");
        CHECKS.taken("kinds", 0, States::fresh, KindGuesser::kinds);
        CHECKS.taken("kind -1", 0, States::fresh, x -> x.kind(-1));
        CHECKS.taken("byName", -1, States::fresh, KindGuesser::byName);
        CHECKS.taken("byBytes", -1, States::fresh, KindGuesser::byBytes);
        for (int number : new int[] {-1, 0, 1, 13}) {
            CHECKS.outOfBounds("isSpecial " + number, States::fresh, x -> x.isSpecial(number, number));
            CHECKS.outOfBounds("pattern of " + number, States::fresh, x -> x.pattern(number, 0, 0, 0, 0));
            CHECKS.outOfBounds("rule of " + number, States::fresh, x -> x.rule(number, 0));
            CHECKS.outOfBounds("program for " + number, States::fresh, x -> x.program(0, number, 0, 0));
            CHECKS.outOfBounds("default of " + number, States::fresh, x -> x.setDefault(0, number, -1));
            CHECKS.outOfBounds("programs of " + number, States::fresh, x -> x.programs(number));
            CHECKS.outOfBounds("programAt of " + number, States::fresh, x -> x.programAt(number, 0));
            CHECKS.outOfBounds("opener of " + number, States::fresh, x -> x.opener(number));
        }
    }

    private static void beginsWithoutPatterns() {
        CHECKS.about("1: begins without patterns");
        for (int number = -1; number <= 20; number++) {
            int pattern = number;
            CHECKS.outOfBounds("fits " + pattern, States::fresh, x -> x.fits(pattern));
            CHECKS.outOfBounds("fitsByTable " + pattern, States::fresh, x -> x.fitsByTable(pattern));
            CHECKS.outOfBounds("drop " + pattern, States::fresh, x -> x.drop(pattern));
        }
        CHECKS.taken("the first pattern", 0, () -> States.withKinds(1), x -> x.pattern(0, 0, 0, 0, 0));
        CHECKS.taken("byName with a kind alone", -1, () -> States.withKinds(1), KindGuesser::byName);
    }

    private static void beginsWithoutRules() {
        CHECKS.about("1: begins without rules");
        for (int number = -1; number <= 12; number++) {
            int rule = number;
            CHECKS.outOfBounds("proves " + rule, States::fresh, x -> x.proves(rule));
            CHECKS.outOfBounds("test of " + rule, States::fresh, x -> x.test(rule, 0, 0, 0, 0, 0));
        }
        CHECKS.taken("the first rule", 0, () -> States.withKinds(1), x -> x.rule(0, 0));
        CHECKS.taken("byBytes with a kind alone", -1, () -> States.withKinds(1), KindGuesser::byBytes);
    }

    private static void beginsWithAnEmptyFile() {
        CHECKS.about("1: begins with an empty file");
        CHECKS.taken("empty", 0, States::fresh, KindGuesser::empty);
        CHECKS.taken("letter", 1, States::fresh, x -> x.letter(0));
        CHECKS.taken("put", 1, States::fresh, x -> x.put(0));
        CHECKS.taken("guess", -1, States::fresh, KindGuesser::guess);
        KindGuesser x = States.withKinds(1);
        Written.pattern(x, 0, 0, "");
        Written.pattern(x, 0, 0, "?*");
        x.rule(0, 0);
        x.test(0, 0, 0, 15, 0, 0);
        CHECKS.same("a pattern of no letters fits", true, x.fits(0));
        CHECKS.same("a pattern of one letter or more fits", false, x.fits(1));
        CHECKS.same("a test of any byte holds", false, x.proves(0));
    }

    private static void sharesNothing() {
        CHECKS.about("1: begins so whatever stands in another object");
        KindGuesser other = States.full();
        KindGuesser x = new KindGuesser();
        CHECKS.same("kinds", 0, x.kinds());
        CHECKS.same("empty", 0, x.empty());
        x.kind(-1);
        CHECKS.same("the program's standing", 0, x.program(0, 0, 0, 0));
        CHECKS.same("the default", -1, x.setDefault(0, 0, -1));
        CHECKS.same("the first pattern", 0, x.pattern(0, 0, 0, 0, 0));
        CHECKS.same("the first rule", 0, x.rule(0, 0));
        CHECKS.same("the first test", 1, x.test(0, 0, 0, 0, 0, 0));
        CHECKS.same("kinds of the other one", 14, other.kinds());
        CHECKS.same("the file of the other one", 28, other.empty());
    }

    private static void answersTheLastCall() {
        CHECKS.about("What it is: used for at most 512 calls after it has been made");
        KindGuesser x = new KindGuesser();
        for (int call = 1; call <= 510; call++) {
            CHECKS.same("call " + call, "throws.IndexOutOfBoundsException", Checks.answerOf(() -> x.kind(0)));
        }
        CHECKS.same("call 511", 0, x.kind(-1));
        CHECKS.same("call 512", 1, x.kinds());
        KindGuesser full = States.full();
        int due = States.full().guess();
        for (int call = States.CALLS_TO_FILL + 1; call <= 512; call++) {
            CHECKS.same("call " + call + " of a full one", due, full.guess());
        }
    }

    private static void takesAnEarlierKindOrNone() {
        CHECKS.about("2: parent: an earlier kind, or -1 for none");
        for (int count = 0; count < 14; count++) {
            for (int parent = -1; parent < count; parent++) {
                KindGuesser x = States.withKinds(count);
                CHECKS.same("kind " + parent + " of " + count, count, x.kind(parent));
                for (int other = 0; other < count; other++) {
                    boolean due = parent != -1 && x.isSpecial(parent, other);
                    CHECKS.same("child of " + parent + " isSpecial " + other, due, x.isSpecial(count, other));
                }
            }
        }
    }

    private static void answersTheNumber() {
        CHECKS.about("2: returns its number; kinds are numbered from 0 as they are made");
        KindGuesser none = new KindGuesser();
        KindGuesser line = new KindGuesser();
        for (int kind = 0; kind < 14; kind++) {
            CHECKS.same("kind without a parent", kind, none.kind(-1));
            CHECKS.same("kind below the last one", kind, line.kind(kind - 1));
        }
    }

    private static void refusesWhatIsNoKind() {
        CHECKS.about("2: IndexOutOfBoundsException if parent is neither -1 nor a kind");
        for (int count : new int[] {0, 1, 2, 13}) {
            for (int parent : States.outside(-1, count - 1)) {
                CHECKS.outOfBounds("kind " + parent + " of " + count, () -> States.withKinds(count),
                        x -> x.kind(parent));
            }
        }
        CHECKS.outOfBounds("the number that it would have", States::small, x -> x.kind(2));
        CHECKS.taken("the number after such a call", 2, () -> {
            KindGuesser x = States.small();
            Checks.answerOf(() -> x.kind(2));
            return x;
        }, x -> x.kind(1));
    }

    private static void refusesTheFifteenth() {
        CHECKS.about("2: IllegalStateException if there are 14 kinds");
        CHECKS.taken("the 14th", 13, () -> States.withKinds(13), x -> x.kind(-1));
        CHECKS.taken("the 14th below the last one", 13, () -> States.withKinds(13), x -> x.kind(12));
        for (int parent = -1; parent < 14; parent++) {
            int p = parent;
            CHECKS.badState("the 15th below " + p, () -> States.withKinds(14), x -> x.kind(p));
            CHECKS.badState("the 15th below " + p + " of a full one", States::full, x -> x.kind(p));
        }
    }

    private static void looksAtTheParentFirst() {
        CHECKS.about("2: of several exceptions it is the first one of the throws clause");
        for (int parent : States.outside(-1, 13)) {
            CHECKS.outOfBounds("the 15th below " + parent, States::full, x -> x.kind(parent));
        }
    }

    private static void countsKinds() {
        CHECKS.about("7: returns how many kinds there are");
        KindGuesser x = new KindGuesser();
        CHECKS.same("none yet", 0, x.kinds());
        for (int count = 1; count <= 14; count++) {
            x.kind(-1);
            CHECKS.same("kinds after " + count, count, x.kinds());
            CHECKS.same("kinds again", count, x.kinds());
        }
        Checks.answerOf(() -> x.kind(-1));
        CHECKS.same("kinds after a 15th that was refused", 14, x.kinds());
        x.empty();
        CHECKS.same("kinds after the file was emptied", 14, x.kinds());
    }

    private static void tellsOfItself() {
        CHECKS.about("8: or of itself");
        for (int count = 1; count <= 14; count++) {
            for (int kind = 0; kind < count; kind++) {
                int k = kind;
                int c = count;
                CHECKS.taken("isSpecial of itself", true, () -> States.withKinds(c), x -> x.isSpecial(k, k));
            }
        }
    }

    private static void tellsOfItsParent() {
        CHECKS.about("Terms: a kind is a special one of its parent");
        KindGuesser x = States.line(14);
        for (int kind = 1; kind < 14; kind++) {
            CHECKS.same(kind + " of its parent", true, x.isSpecial(kind, kind - 1));
            CHECKS.same(kind + " of its child", false, x.isSpecial(kind - 1, kind));
        }
    }

    private static void tellsOfAllAbove() {
        CHECKS.about("Terms: and of all of which its parent is a special one");
        KindGuesser x = States.line(14);
        CHECKS.same("the last of the first", true, x.isSpecial(13, 0));
        CHECKS.same("the first of the last", false, x.isSpecial(0, 13));
        for (int kind = 0; kind < 14; kind++) {
            for (int other = 0; other < 14; other++) {
                CHECKS.same("of a line: " + kind + " " + other, kind >= other, x.isSpecial(kind, other));
            }
        }
    }

    private static void tellsNothingElse() {
        CHECKS.about("8: not of kinds beside it, nor of another tree");
        KindGuesser apart = new KindGuesser();
        KindGuesser beside = new KindGuesser();
        for (int kind = 0; kind < 14; kind++) {
            apart.kind(-1);
            beside.kind(kind == 0 ? -1 : 0);
        }
        for (int kind = 0; kind < 14; kind++) {
            for (int other = 0; other < 14; other++) {
                CHECKS.same("apart: " + kind + " " + other, kind == other, apart.isSpecial(kind, other));
                CHECKS.same("beside: " + kind + " " + other, kind == other || other == 0,
                        beside.isSpecial(kind, other));
            }
        }
    }

    private static void refusesNoSuchKind() {
        CHECKS.about("8: IndexOutOfBoundsException if there is no such kind");
        for (int kind : States.outside(0, 1)) {
            CHECKS.outOfBounds("isSpecial " + kind + " 0", States::small, x -> x.isSpecial(kind, 0));
            CHECKS.outOfBounds("isSpecial " + kind + " 1", States::small, x -> x.isSpecial(kind, 1));
        }
        for (int kind : States.outside(0, 13)) {
            CHECKS.outOfBounds("isSpecial " + kind + " 13", States::full, x -> x.isSpecial(kind, 13));
            CHECKS.outOfBounds("neither: " + kind, States::full, x -> x.isSpecial(kind, kind));
        }
    }

    private static void refusesNoSuchOther() {
        CHECKS.about("8: IndexOutOfBoundsException if there is no such other one");
        for (int other : States.outside(0, 1)) {
            CHECKS.outOfBounds("isSpecial 0 " + other, States::small, x -> x.isSpecial(0, other));
            CHECKS.outOfBounds("isSpecial 1 " + other, States::small, x -> x.isSpecial(1, other));
        }
        for (int other : States.outside(0, 13)) {
            CHECKS.outOfBounds("isSpecial 13 " + other, States::full, x -> x.isSpecial(13, other));
        }
    }
}
