public final class Promise01NewObjectTest {
    public static void main(String[] args) {
        stateOfANewObject();
        noTokenHasACertificate();
        theLogIsEmpty();
        noIssuerIsEnrolled();
        theStationHasItsKeyAlways();
        firstConfiguration();
        theLatchIsLockedAtFirst();
        objectsAreApart();
        Check.end();
    }

    /** "THE TIME is 0 at first", "DOWN (at first)", "closed (at first)", readers hold none. */
    private static void stateOfANewObject() {
        Check.counts(new SecureEntry(), "of a new object", 0, 0, 0, 0, 0, 0, 0, 0, 0, -1, -1);
    }

    /** "TOKENS 0 .. 5 have one certificate of each kind or none (at first)." */
    private static void noTokenHasACertificate() {
        for (int place = 0; place < 24; place++) {
            int token = place / 4;
            int kind = place % 4;
            Refusal.due(Check.NO_ELEMENT, "certificate(" + token + ", " + kind + ", 0) of a new object",
                    SecureEntry::new, station -> station.certificate(token, kind, 0));
        }
    }

    private static void theLogIsEmpty() {
        Refusal.due(Check.NO_ELEMENT, "entry(0, 0) of a new object", SecureEntry::new,
                station -> station.entry(0, 0));
    }

    /** "ISSUERS 0 .. 5 are ENROLLED with a KEY 1 .. 9972 or not (at first)". */
    private static void noIssuerIsEnrolled() {
        SecureEntry station = new SecureEntry();
        for (int issuer = 0; issuer < 6; issuer++) {
            Check.due("signature by " + issuer, 0, station.signature(0, issuer, 0, 0, 0, 0));
            Check.due("enrol(" + issuer + ", 0)", 0, station.enrol(issuer, 0));
        }
    }

    /** "issuer 6 is the station itself, with the key 4711, always". */
    private static void theStationHasItsKeyAlways() {
        SecureEntry station = new SecureEntry();
        Check.due("the station's key at first", 4711, station.signature(0, 6, 0, 0, 0, 0));
        for (int issuer = 0; issuer < 6; issuer++) {
            station.enrol(issuer, 9972);
        }
        Check.due("the station's key beside others", 4711, station.signature(0, 6, 0, 0, 0, 0));
        station.start();
        Check.due("the station's key when UP", 4711, station.signature(0, 6, 0, 0, 0, 0));
        Check.due("the station's key after shutdown", 4711,
                Stations.afterShutdown().signature(0, 6, 0, 0, 0, 0));
    }

    /** "0 LATCH 5 (seconds), 1 SILENCE 10, 2 WAIT 20, 3 PERIOD 100, 4 THRESHOLD 2, 5 CLASS 1, at first". */
    private static void firstConfiguration() {
        SecureEntry station = Stations.upWith(Stations.OFFICER);
        int[] first = {5, 10, 20, 100, 2, 1};
        for (int which = 0; which < first.length; which++) {
            Check.due("configure(" + which + ", 0)", first[which], station.configure(which, 0));
        }
    }

    private static void theLatchIsLockedAtFirst() {
        SecureEntry station = new SecureEntry();
        station.door(true);
        Check.log(station, "after the first opening at 0", 9, 0, -1);
        Check.due("alarm at 0", 0, station.count(5));
    }

    private static void objectsAreApart() {
        SecureEntry changed = Stations.upWith(Stations.OFFICER);
        changed.configure(0, 77);
        changed.door(true);
        changed.pass(9);
        Check.counts(new SecureEntry(), "of another object", 0, 0, 0, 0, 0, 0, 0, 0, 0, -1, -1);
        Check.due("configure on another object", 5, Stations.upWith(Stations.OFFICER).configure(0, 1));
    }
}
