public final class Promise09LogonTest {
    public static void main(String[] args) {
        everyRoleAndClearance();
        valuesAboveFifteen();
        everyToken();
        withoutCertificates();
        needsBothCertificates();
        needsOneHolder();
        needsTheStationAsIssuer();
        authorisationAtFromAndTo();
        idAtFromAndTo();
        theUserStateStays();
        noTokenOfThatNumber();
        tokensInReaders();
        readerFilled();
        refusesInOrder();
        whileDown();
        Check.end();
    }

    /** "AUTHORISED, with a role 1 .. 3: it is the administrator, entry 10, and the answer is the role". */
    private static void everyRoleAndClearance() {
        for (int value = 0; value < 16; value++) {
            SecureEntry station = Stations.up();
            Stations.giveAuthorisation(station, 2, 33, value, Stations.ALWAYS);
            station.pass(1);
            int role = value % 4;
            Check.due("logon with the value " + value, role, station.logon(2));
            Check.counts(station, "after logon", 1, 0, role, 0, 0, 0, 0, 2, 1, -1, 2);
            Check.log(station, "after logon", 1, 0, -1, role == 0 ? 16 : 10, 1, 33);
        }
    }

    private static void valuesAboveFifteen() {
        int[] values = {16, 17, 18, 19, 65535};
        for (int value : values) {
            SecureEntry station = Stations.up();
            Stations.giveAuthorisation(station, 2, 33, value, Stations.ALWAYS);
            refusedBy(station, 2, 33, "the value " + value);
        }
    }

    /** "else entry 16, and 0", the token being in. */
    private static void refusedBy(SecureEntry station, int token, int holder, String why) {
        Check.due("logon with " + why, 0, station.logon(token));
        Check.due("role with " + why, 0, station.count(2));
        Check.due("the inner reader with " + why, token, station.count(10));
        Check.newest(station, "with " + why, 16, station.count(8), holder);
    }

    private static void everyToken() {
        for (int token = 0; token < 6; token++) {
            SecureEntry station = Stations.up();
            Stations.giveAuthorisation(station, token, 33, 2, Stations.ALWAYS);
            Check.due("logon(" + token + ")", 2, station.logon(token));
            Check.due("the inner reader", token, station.count(10));
        }
    }

    private static void withoutCertificates() {
        for (int token = 0; token < 6; token++) {
            refusedBy(Stations.up(), token, -1, "no certificate");
        }
    }

    private static void needsBothCertificates() {
        SecureEntry noId = Stations.up();
        Stations.certifyRightly(noId, 1, 3, 6, 7, 1, Stations.ALWAYS);
        refusedBy(noId, 1, -1, "no ID");
        SecureEntry good = Stations.up();
        Stations.giveGood(good, 1, 7, 1);
        refusedBy(good, 1, 7, "no authorisation");
        SecureEntry wrongId = Stations.up();
        Stations.giveAuthorisation(wrongId, 1, 7, 1, Stations.ALWAYS);
        wrongId.certify(1, 0, 0, 7, 0, 0, 100, (wrongId.signature(0, 0, 7, 0, 0, 100) + 1) % 9973);
        refusedBy(wrongId, 1, 7, "a wrongly signed ID");
        SecureEntry wrong = Stations.up();
        Stations.giveAuthorisation(wrong, 1, 7, 1, Stations.ALWAYS);
        wrong.certify(1, 3, 6, 7, 1, 0, 100, (wrong.signature(3, 6, 7, 1, 0, 100) + 1) % 9973);
        refusedBy(wrong, 1, 7, "a wrongly signed authorisation");
        SecureEntry unknown = Stations.up();
        Stations.giveAuthorisation(unknown, 1, 7, 1, Stations.ALWAYS);
        unknown.certify(1, 0, 3, 7, 0, 0, 100, 0);
        refusedBy(unknown, 1, 7, "an ID by an issuer that is not enrolled");
    }

    private static void needsOneHolder() {
        SecureEntry station = Stations.up();
        Stations.giveAuthorisation(station, 1, 7, 1, Stations.ALWAYS);
        Stations.certifyRightly(station, 1, 0, 0, 8, 0, Stations.ALWAYS);
        refusedBy(station, 1, 8, "two holders");
    }

    private static void needsTheStationAsIssuer() {
        SecureEntry station = Stations.up();
        Stations.giveAuthorisation(station, 1, 7, 1, Stations.ALWAYS);
        Stations.certifyRightly(station, 1, 3, 0, 7, 1, Stations.ALWAYS);
        refusedBy(station, 1, 7, "an authorisation by an issuer");
    }

    private static void authorisationAtFromAndTo() {
        int[] times = {9, 10, 12, 13};
        int[] roles = {0, 3, 3, 0};
        for (int turn = 0; turn < times.length; turn++) {
            SecureEntry station = Stations.up();
            Stations.giveAuthorisation(station, 1, 7, 1, Stations.ALWAYS);
            Stations.certifyFrom(station, 1, 3, 6, 7, 3, 10, 12);
            station.pass(times[turn]);
            Check.due("logon at " + times[turn], roles[turn], station.logon(1));
        }
    }

    private static void idAtFromAndTo() {
        int[] times = {9, 10, 12, 13};
        int[] roles = {0, 3, 3, 0};
        for (int turn = 0; turn < times.length; turn++) {
            SecureEntry station = Stations.up();
            Stations.giveAuthorisation(station, 1, 7, 3, Stations.ALWAYS);
            Stations.certifyFrom(station, 1, 0, 0, 7, 3, 10, 12);
            station.pass(times[turn]);
            Check.due("logon with an ID at " + times[turn], roles[turn], station.logon(1));
        }
    }

    private static void theUserStateStays() {
        SecureEntry station = Stations.upForFinger(4);
        Stations.giveAuthorisation(station, 1, 7, 1, Stations.ALWAYS);
        station.pass(1);
        station.logon(1);
        Check.counts(station, "after logon in the state FINGER", 1, 1, 1, 0, 0, 0, 0, 3, 1, 0, 1);
        station.pass(18);
        Check.due("user state at 19", 1, station.count(1));
        station.pass(1);
        Check.due("user state at 20", 3, station.count(1));
    }

    /** "NoSuchElementException: token not 0 .. 5." */
    private static void noTokenOfThatNumber() {
        Refusal.outside(0, 5, Check.NO_ELEMENT, "logon", Stations::up, SecureEntry::logon);
    }

    /** "IllegalStateException: it is in a reader". */
    private static void tokensInReaders() {
        Refusal.due(Check.STATE, "logon of the outer reader's token", Stations::upForEntry,
                station -> station.logon(0));
        Refusal.due(Check.STATE, "logon of the inner reader's token", () -> Stations.upWith(Stations.GUARD),
                station -> station.logon(Stations.ADMINISTRATOR));
    }

    /** "or one is in the inner reader", an administrator or not. */
    private static void readerFilled() {
        Refusal.due(Check.STATE, "logon beside an administrator", () -> Stations.upWith(Stations.GUARD),
                station -> station.logon(1));
        Refusal.due(Check.STATE, "logon beside a lapsed one", () -> Stations.upWithLapsed(Stations.GUARD),
                station -> station.logon(1));
        Refusal.due(Check.STATE, "logon beside a refused one", Promise09LogonTest::withRefused,
                station -> station.logon(1));
        Refusal.due(Check.STATE, "logon of the refused one", Promise09LogonTest::withRefused,
                station -> station.logon(2));
    }

    private static SecureEntry withRefused() {
        SecureEntry station = Stations.up();
        station.logon(2);
        return station;
    }

    private static void refusesInOrder() {
        Refusal.outside(0, 5, Check.NO_ELEMENT, "logon into a filled reader", Promise09LogonTest::withRefused,
                SecureEntry::logon);
    }

    private static void whileDown() {
        Refusal.outside(0, 5, Check.STATE, "logon while DOWN", Stations::enrolled, SecureEntry::logon);
        Refusal.due(Check.STATE, "logon(0) while DOWN", Stations::enrolled, station -> station.logon(0));
        Refusal.due(Check.STATE, "logon after shutdown", Stations::afterShutdown,
                station -> station.logon(Stations.ADMINISTRATOR));
    }
}
