import java.util.NoSuchElementException;

/** Counts what is not as due; a test that ends with such a count has the exit code 1. */
final class Check {
    static final Class<IllegalStateException> STATE = IllegalStateException.class;
    static final Class<IllegalArgumentException> ARGUMENT = IllegalArgumentException.class;
    static final Class<NoSuchElementException> NO_ELEMENT = NoSuchElementException.class;
    static final Class<UnsupportedOperationException> UNSUPPORTED = UnsupportedOperationException.class;

    private static int wrong = 0;

    private Check() {
    }

    static void due(String call, int want, int got) {
        if (want != got) {
            tell(call + " answered " + got + ", due is " + want);
        }
    }

    static void same(String what, String want, String got) {
        if (!want.equals(got)) {
            tell(what + " is " + got + ", due is " + want);
        }
    }

    static void counts(SecureEntry station, String when, int... want) {
        for (int what = 0; what < want.length; what++) {
            due("count(" + what + ") " + when, want[what], station.count(what));
        }
    }

    /** The log's entries, each as kind, time and holder in a row. */
    static void log(SecureEntry station, String when, int... want) {
        int entries = station.count(7);
        due("count(7) " + when, want.length / 3, entries);
        for (int place = 0; place < want.length; place++) {
            if (place / 3 < entries) {
                String call = "entry(" + place / 3 + ", " + place % 3 + ") " + when;
                due(call, want[place], station.entry(place / 3, place % 3));
            }
        }
    }

    /** The newest entries of the log, each as kind, time and holder in a row. */
    static void newest(SecureEntry station, String when, int... want) {
        int first = station.count(7) - want.length / 3;
        if (first < 0) {
            tell("the log " + when + " has only " + station.count(7) + " entries");
            return;
        }
        for (int place = 0; place < want.length; place++) {
            String call = "entry(" + (first + place / 3) + ", " + place % 3 + ") " + when;
            due(call, want[place], station.entry(first + place / 3, place % 3));
        }
    }

    /** A token's certificate: issuer, holder, value, from, to, signature and validity in a row. */
    static void certificate(SecureEntry station, int token, int kind, int... want) {
        for (int what = 0; what < want.length; what++) {
            String call = "certificate(" + token + ", " + kind + ", " + what + ")";
            due(call, want[what], station.certificate(token, kind, what));
        }
    }

    static void tell(String fault) {
        wrong++;
        System.out.println(fault);
    }

    static void end() {
        System.out.println(wrong == 0 ? "as due" : wrong + " not as due");
        if (wrong != 0) {
            System.exit(1);
        }
    }
}
