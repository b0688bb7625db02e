import java.util.function.Consumer;
import java.util.function.Supplier;

/** Counts checks that hold and those that do not, and ends a test's run by that. */
final class Checks {
    interface Call {
        Object answer();
    }

    private int passed = 0;
    private int failed = 0;

    void same(String what, Object due, Object got) {
        if (due.equals(got)) {
            passed++;
        } else {
            failed++;
            System.out.println(what + " answered " + got + ", due is " + due);
        }
    }

    /**
     * Checks that a call throws exactly this exception and leaves no trace: an object that had the call and a twin
     * that had not must tell the same of themselves.
     */
    void refused(String what, Class<? extends RuntimeException> due, Supplier<KindGuesser> maker,
            Consumer<KindGuesser> call) {
        KindGuesser refusing = maker.get();
        String got = answerOf(() -> {
            call.accept(refusing);
            return "nothing";
        });
        same(what, "throws." + due.getSimpleName(), got);
        same(what + ", what stands after it", Report.of(maker.get()), Report.of(refusing));
    }

    void outOfBounds(String what, Supplier<KindGuesser> maker, Consumer<KindGuesser> call) {
        refused(what, IndexOutOfBoundsException.class, maker, call);
    }

    void badArgument(String what, Supplier<KindGuesser> maker, Consumer<KindGuesser> call) {
        refused(what, IllegalArgumentException.class, maker, call);
    }

    void badState(String what, Supplier<KindGuesser> maker, Consumer<KindGuesser> call) {
        refused(what, IllegalStateException.class, maker, call);
    }

    static String answerOf(Call call) {
        try {
            return String.valueOf(call.answer());
        } catch (RuntimeException e) {
            return "throws." + e.getClass().getSimpleName();
        }
    }

    void close() {
        System.out.println(passed + " passed, " + failed + " failed");
        if (failed != 0 || passed == 0) {
            System.exit(1);
        }
    }
}
