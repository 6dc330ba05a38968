public final class Promise06InsertTest {
    private static final int KINDS = 4;

    public static void main(String[] args) {
        authorisedTokenEnters();
        goodTokenIsAskedForAFinger();
        authorisationGoesBeforeGoodness();
        emptyTokenIsRefused();
        goodNeedsAllThreeCertificates();
        goodNeedsOneHolder();
        authorisedNeedsIdAndOneHolder();
        validityDecides();
        refusesInOrder();
        Check.end();
    }

    private static void authorisedTokenEnters() {
        SecureEntry station = Stations.up();
        Stations.giveAuthorisation(station, 3, 44, 0, Stations.ALWAYS);
        station.pass(2);
        Check.due("insert(3)", 2, station.insert(3));
        Check.counts(station, "after insert", 1, 2, 0, 0, 0, 0, 0, 3, 2, 3, -1);
        Check.log(station, "after insert", 1, 0, -1, 2, 2, 44, 7, 2, 44);
    }

    private static void goodTokenIsAskedForAFinger() {
        SecureEntry station = Stations.up();
        Stations.giveGood(station, 0, 5, 9);
        Check.due("insert(0)", 1, station.insert(0));
        Check.counts(station, "after insert", 1, 1, 0, 0, 0, 0, 0, 2, 0, 0, -1);
        Check.log(station, "after insert", 1, 0, -1, 2, 0, 5);
    }

    private static void authorisationGoesBeforeGoodness() {
        SecureEntry station = Stations.up();
        Stations.giveGood(station, 0, 5, 9);
        Stations.certifyRightly(station, 0, 3, 6, 5, 0, Stations.ALWAYS);
        Check.due("insert of a token that is both", 2, station.insert(0));
    }

    private static void emptyTokenIsRefused() {
        SecureEntry station = Stations.up();
        Check.due("insert(5)", 3, station.insert(5));
        Check.counts(station, "after insert", 1, 3, 0, 0, 0, 0, 0, 3, 0, 5, -1);
        Check.log(station, "after insert", 1, 0, -1, 2, 0, -1, 3, 0, -1);
    }

    private static void goodNeedsAllThreeCertificates() {
        for (int missing = 0; missing < 3; missing++) {
            SecureEntry station = Stations.up();
            for (int kind = 0; kind < 3; kind++) {
                if (kind != missing) {
                    Stations.certifyRightly(station, 1, kind, 0, 5, 4, Stations.ALWAYS);
                }
            }
            Check.due("insert without kind " + missing, 3, station.insert(1));
            int holder = missing == 0 ? -1 : 5;
            Check.log(station, "without kind " + missing, 1, 0, -1, 2, 0, holder, 3, 0, holder);
        }
    }

    private static void goodNeedsOneHolder() {
        for (int kind = 0; kind < 3; kind++) {
            SecureEntry station = Stations.up();
            Stations.giveGood(station, 0, 5, 9);
            Stations.certifyRightly(station, 0, kind, 0, 6, 9, Stations.ALWAYS);
            Check.due("insert with another holder of kind " + kind, 3, station.insert(0));
            Check.due("the holder in the log", kind == 0 ? 6 : 5, station.entry(2, 2));
        }
    }

    private static void authorisedNeedsIdAndOneHolder() {
        SecureEntry station = Stations.up();
        Stations.certifyRightly(station, 0, 3, 6, 5, 0, Stations.ALWAYS);
        Check.due("insert without an ID", 3, station.insert(0));
        Stations.giveAuthorisation(station, 1, 5, 0, Stations.ALWAYS);
        Stations.certifyRightly(station, 1, 0, 0, 6, 0, Stations.ALWAYS);
        station.remove();
        Check.due("insert with another holder", 3, station.insert(1));
    }

    private static void validityDecides() {
        for (int kind = 0; kind < KINDS; kind++) {
            SecureEntry station = Stations.up();
            boolean authorisation = kind == 3;
            if (authorisation) {
                Stations.giveAuthorisation(station, 0, 5, 0, Stations.ALWAYS);
            } else {
                Stations.giveGood(station, 0, 5, 9);
            }
            int issuer = authorisation ? 6 : 0;
            Stations.certifyRightly(station, 0, kind, issuer, 5, 1, 30);
            Stations.passTo(station, 30);
            Check.due("insert while kind " + kind + " is valid", authorisation ? 2 : 1, station.insert(0));
            station.remove();
            station.pass(1);
            Check.due("insert when kind " + kind + " is out of time", 3, station.insert(0));
        }
    }

    private static void refusesInOrder() {
        SecureEntry down = Stations.enrolled();
        Check.refused(down, Check.STATE, "insert(0) while DOWN", () -> down.insert(0));
        Check.refused(down, Check.STATE, "insert(6) while DOWN", () -> down.insert(6));
        SecureEntry station = Stations.up();
        station.logon(4);
        Check.refused(station, Check.STATE, "insert of the inner reader's", () -> station.insert(4));
        station.insert(0);
        Check.refused(station, Check.NO_ELEMENT, "insert(6)", () -> station.insert(6));
        Check.refused(station, Check.NO_ELEMENT, "insert(-1)", () -> station.insert(-1));
        Check.refused(station, Check.STATE, "insert into a filled reader", () -> station.insert(1));
        Check.refused(station, Check.STATE, "insert of the same", () -> station.insert(0));
    }
}
