import java.util.function.Supplier;
import java.util.function.ToIntFunction;

/**
 * A call that must throw and change nothing. It is made on one new object and spared another, and
 * both are then looked at in each way of {@link Aftermath}; the objects are new for every look,
 * because looking makes calls, and an object is promised for 512 of them alone.
 */
final class Refusal {
    private Refusal() {
    }

    static void due(Class<? extends RuntimeException> want, String call, Supplier<SecureEntry> maker,
            ToIntFunction<SecureEntry> made) {
        for (Aftermath look : Aftermath.values()) {
            SecureEntry tried = maker.get();
            Check.same("what comes of " + call, want.getName(), outcome(tried, made));
            Check.same(look + " after the refused " + call, look.of(maker.get()), look.of(tried));
        }
    }

    /** The call must be refused for every number below the lowest and above the highest one. */
    static void outside(int lowest, int highest, Class<? extends RuntimeException> want, String call,
            Supplier<SecureEntry> maker, CallWithNumber made) {
        for (int number : Edges.outside(lowest, highest)) {
            due(want, call + " with " + number, maker, station -> made.on(station, number));
        }
    }

    private static String outcome(SecureEntry station, ToIntFunction<SecureEntry> made) {
        try {
            return "the answer " + made.applyAsInt(station);
        } catch (RuntimeException thrown) {
            return thrown.getClass().getName();
        }
    }

    interface CallWithNumber {
        int on(SecureEntry station, int number);
    }
}
