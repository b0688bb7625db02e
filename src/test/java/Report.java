/** Tells all that an object answers, also by adding to it, so that the object is used up afterwards. */
final class Report {
    private Report() {
    }

    static String of(KindGuesser x) {
        StringBuilder text = new StringBuilder();
        tellKinds(x, text);
        tellGuesses(x, text);
        tellPrograms(x, text);
        tellNextAnswers(x, text);
        return text.toString();
    }

    private static void tell(StringBuilder text, String what, Checks.Call call) {
        text.append(what).append('=').append(Checks.answerOf(call)).append(' ');
    }

    private static void tellKinds(KindGuesser x, StringBuilder text) {
        tell(text, "kinds", x::kinds);
        for (int kind = 0; kind < x.kinds(); kind++) {
            for (int other = 0; other < kind; other++) {
                int k = kind;
                int o = other;
                tell(text, "isSpecial", () -> x.isSpecial(k, o));
            }
        }
    }

    private static void tellGuesses(KindGuesser x, StringBuilder text) {
        tell(text, "byName", x::byName);
        tell(text, "byBytes", x::byBytes);
        tell(text, "guess", x::guess);
        for (int pattern = 0; pattern < 20; pattern++) {
            int p = pattern;
            tell(text, "fits", () -> x.fits(p));
        }
        for (int rule = 0; rule < 12; rule++) {
            int r = rule;
            tell(text, "proves", () -> x.proves(r));
        }
    }

    private static void tellPrograms(KindGuesser x, StringBuilder text) {
        for (int kind = 0; kind < 2; kind++) {
            int k = kind;
            tell(text, "programs", () -> x.programs(k));
            tell(text, "opener", () -> x.opener(k));
            for (int list = 0; list < 3; list++) {
                int l = list;
                tell(text, "setDefault", () -> x.setDefault(l, k, -1));
                for (int program = 0; program < 10; program++) {
                    int p = program;
                    tell(text, "program", () -> x.program(l, k, p, 0));
                }
            }
        }
    }

    private static void tellNextAnswers(KindGuesser x, StringBuilder text) {
        for (int rule = 0; rule < 12; rule++) {
            int r = rule;
            tell(text, "test", () -> x.test(r, 0, 0, 0, 0, 0));
        }
        tell(text, "rule", () -> x.rule(0, 0));
        tell(text, "pattern", () -> x.pattern(0, 0, 0, 0, 0));
        tell(text, "kind", () -> x.kind(-1));
        tell(text, "letter", () -> x.letter(0));
        tell(text, "put", () -> x.put(0));
        tell(text, "empty", x::empty);
        for (int pattern = 0; pattern < 20; pattern++) {
            int p = pattern;
            tell(text, "drop", () -> x.drop(p));
        }
    }
}
