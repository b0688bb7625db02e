import java.util.function.Consumer;
import java.util.function.Function;
import java.util.function.Supplier;

/** Counts checks that hold and those that do not, and ends a test's run by that. */
final class Checks {
    interface Call {
        Object answer();
    }

    private int passed = 0;
    private int failed = 0;
    private int sentences = 0;
    private int checksOfSentence = 0;
    private String sentence = "";

    /** Names the document's sentence that the checks from here on hold to account; each must have some. */
    void about(String next) {
        endSentence();
        sentences++;
        sentence = next;
        checksOfSentence = 0;
    }

    private void endSentence() {
        if (sentences > 0 && checksOfSentence == 0) {
            fail("has no check");
        }
    }

    private void fail(String message) {
        failed++;
        System.out.println((sentence.isEmpty() ? "" : "[" + sentence + "] ") + message);
    }

    void same(String what, Object due, Object got) {
        checksOfSentence++;
        if (due.equals(got)) {
            passed++;
        } else {
            fail(what + " answered " + got + ", due is " + due);
        }
    }

    /** Checks that a call on this object answers so. */
    void taken(String what, Object due, Supplier<KindGuesser> maker, Function<KindGuesser, Object> call) {
        same(what, String.valueOf(due), answerOf(() -> call.apply(maker.get())));
    }

    /**
     * Checks that a call throws exactly this exception and leaves no trace: an object that had the call and a twin
     * that had not must tell the same of themselves, in each respect.
     */
    void refused(String what, Class<? extends RuntimeException> due, Supplier<KindGuesser> maker,
            Consumer<KindGuesser> call) {
        for (Report.Respect respect : Report.Respect.values()) {
            KindGuesser refusing = maker.get();
            String got = answerOf(() -> {
                call.accept(refusing);
                return "nothing";
            });
            same(what, "throws." + due.getSimpleName(), got);
            same(what + ", then " + respect, Report.ALIKE,
                    Report.firstDifference(Report.of(respect, maker.get()), Report.of(respect, refusing)));
        }
    }

    void outOfBounds(String what, Supplier<KindGuesser> maker, Consumer<KindGuesser> call) {
        refused(what, IndexOutOfBoundsException.class, maker, call);
    }

    void badArgument(String what, Supplier<KindGuesser> maker, Consumer<KindGuesser> call) {
        refused(what, IllegalArgumentException.class, maker, call);
    }

    void badState(String what, Supplier<KindGuesser> maker, Consumer<KindGuesser> call) {
        refused(what, IllegalStateException.class, maker, call);
    }

    static String answerOf(Call call) {
        try {
            return String.valueOf(call.answer());
        } catch (RuntimeException e) {
            return "throws." + e.getClass().getSimpleName();
        }
    }

    void close() {
        endSentence();
        System.out.println((sentences > 0 ? sentences + " sentences, " : "") + passed + " passed, " + failed
                + " failed");
        if (failed != 0 || passed == 0) {
            System.exit(1);
        }
    }
}
