import java.util.NoSuchElementException;
import java.util.function.IntSupplier;

/** Counts what is not as due; a test that ends with such a count has the exit code 1. */
final class Check {
    static final Class<IllegalStateException> STATE = IllegalStateException.class;
    static final Class<IllegalArgumentException> ARGUMENT = IllegalArgumentException.class;
    static final Class<NoSuchElementException> NO_ELEMENT = NoSuchElementException.class;
    static final Class<UnsupportedOperationException> UNSUPPORTED = UnsupportedOperationException.class;

    private static int wrong = 0;

    private Check() {
    }

    static void due(String call, int want, int got) {
        if (want != got) {
            tell(call + " answered " + got + ", due is " + want);
        }
    }

    static void same(String what, String want, String got) {
        if (!want.equals(got)) {
            tell(what + " is " + got + ", due is " + want);
        }
    }

    static void refused(SecureEntry station, Class<? extends RuntimeException> want, String call, IntSupplier made) {
        String before = Stations.glance(station);
        String answer;
        try {
            answer = "the answer " + made.getAsInt();
        } catch (RuntimeException thrown) {
            answer = thrown.getClass().getName();
        }
        same("what comes of " + call, want.getName(), answer);
        same("the state after the refused " + call, before, Stations.glance(station));
    }

    static void counts(SecureEntry station, String when, int... want) {
        for (int what = 0; what < want.length; what++) {
            due("count(" + what + ") " + when, want[what], station.count(what));
        }
    }

    /** The log's entries, each as kind, time and holder in a row. */
    static void log(SecureEntry station, String when, int... want) {
        due("count(7) " + when, want.length / 3, station.count(7));
        for (int place = 0; place < want.length; place++) {
            if (place / 3 < station.count(7)) {
                String call = "entry(" + place / 3 + ", " + place % 3 + ") " + when;
                due(call, want[place], station.entry(place / 3, place % 3));
            }
        }
    }

    static void tell(String fault) {
        wrong++;
        System.out.println(fault);
    }

    static void end() {
        System.out.println(wrong == 0 ? "as due" : wrong + " not as due");
        if (wrong != 0) {
            System.exit(1);
        }
    }
}
