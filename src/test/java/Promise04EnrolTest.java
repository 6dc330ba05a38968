public final class Promise04EnrolTest {
    public static void main(String[] args) {
        answersTheKeyThatItHad();
        takesTheLowestAndTheHighestNumbers();
        strikesOff();
        leavesTheOthersAlone();
        numbersOutOfRange();
        whileUp();
        refusesInOrder();
        afterShutdown();
        Check.end();
    }

    private static int keyOf(SecureEntry station, int issuer) {
        return station.signature(0, issuer, 0, 0, 0, 0);
    }

    /** "answers the key that it had, or 0". */
    private static void answersTheKeyThatItHad() {
        SecureEntry station = new SecureEntry();
        Check.due("enrol(0, 9972)", 0, station.enrol(0, 9972));
        Check.due("enrol(0, 1)", 9972, station.enrol(0, 1));
        Check.due("enrol(0, 1) again", 1, station.enrol(0, 1));
        Check.due("enrol(0, 0)", 1, station.enrol(0, 0));
        Check.due("enrol(0, 0) again", 0, station.enrol(0, 0));
        Check.due("enrol(0, 5)", 0, station.enrol(0, 5));
    }

    private static void takesTheLowestAndTheHighestNumbers() {
        for (int issuer : Edges.inside(0, 5)) {
            for (int key : Edges.inside(1, 9972)) {
                SecureEntry station = new SecureEntry();
                Check.due("enrol(" + issuer + ", " + key + ")", 0, station.enrol(issuer, key));
                Check.due("its key", key, keyOf(station, issuer));
                Check.due("start()", 1, station.start());
            }
        }
    }

    /** "or (key 0) strikes it off". */
    private static void strikesOff() {
        for (int issuer = 0; issuer < 6; issuer++) {
            SecureEntry station = new SecureEntry();
            station.enrol(issuer, 123);
            Stations.certifyRightly(station, 0, 0, issuer, 5, 0, 900);
            Check.due("valid by " + issuer, 1, station.certificate(0, 0, 6));
            Check.due("enrol(" + issuer + ", 0)", 123, station.enrol(issuer, 0));
            Check.due("signature by " + issuer + ", struck off", 0, keyOf(station, issuer));
            Check.due("valid by " + issuer + ", struck off", 0, station.certificate(0, 0, 6));
            station.enrol(issuer, 123);
            Check.due("valid by " + issuer + ", enrolled again", 1, station.certificate(0, 0, 6));
        }
    }

    private static void leavesTheOthersAlone() {
        SecureEntry station = new SecureEntry();
        for (int issuer = 0; issuer < 6; issuer++) {
            station.enrol(issuer, 100 + issuer);
        }
        station.enrol(2, 7);
        station.enrol(4, 0);
        int[] keys = {100, 101, 7, 103, 0, 105, 4711};
        for (int issuer = 0; issuer <= 6; issuer++) {
            Check.due("the key of " + issuer, keys[issuer], keyOf(station, issuer));
        }
        Check.due("entries", 0, station.count(7));
    }

    /** "IllegalArgumentException: out of range." */
    private static void numbersOutOfRange() {
        Refusal.outside(0, 5, Check.ARGUMENT, "enrol of an issuer", Stations::enrolled,
                (station, issuer) -> station.enrol(issuer, 1));
        Refusal.outside(0, 5, Check.ARGUMENT, "striking off an issuer", Stations::enrolled,
                (station, issuer) -> station.enrol(issuer, 0));
        Refusal.outside(0, 9972, Check.ARGUMENT, "enrol with a key", Stations::enrolled,
                (station, key) -> station.enrol(0, key));
        Refusal.outside(0, 9972, Check.ARGUMENT, "enrol of another with a key", Stations::enrolled,
                (station, key) -> station.enrol(5, key));
    }

    /** "IllegalStateException: the station is UP." */
    private static void whileUp() {
        for (int each = 0; each < 6; each++) {
            int issuer = each;
            Refusal.due(Check.STATE, "enrol(" + issuer + ", 1) while UP", Stations::up,
                    station -> station.enrol(issuer, 1));
            Refusal.due(Check.STATE, "enrol(" + issuer + ", 0) while UP", Stations::up,
                    station -> station.enrol(issuer, 0));
        }
        Refusal.due(Check.STATE, "enrol(0, 1) for an officer", () -> Stations.upWith(Stations.OFFICER),
                station -> station.enrol(0, 1));
    }

    private static void refusesInOrder() {
        Refusal.outside(0, 5, Check.ARGUMENT, "enrol of an issuer while UP", Stations::up,
                (station, issuer) -> station.enrol(issuer, 1));
        Refusal.outside(0, 9972, Check.ARGUMENT, "enrol with a key while UP", Stations::up,
                (station, key) -> station.enrol(0, key));
    }

    private static void afterShutdown() {
        SecureEntry station = Stations.afterShutdown();
        Check.due("enrol(0, 2) after shutdown", Stations.KEY, station.enrol(0, 2));
        Check.due("enrol(0, 0) after shutdown", 2, station.enrol(0, 0));
        Check.due("enrol(3, 9) after shutdown", 0, station.enrol(3, 9));
        Check.due("start()", 1, station.start());
    }
}
