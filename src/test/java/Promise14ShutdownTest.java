public final class Promise14ShutdownTest {
    public static void main(String[] args) {
        downAndIdleWithoutAnAdministrator();
        entryFifteenBefore();
        locksAtOnce();
        tokensAreOut();
        waitingEnds();
        theAdministratorIsNotLoggedOffLater();
        noAdministrator();
        theDoorIsOpen();
        theRoleIsNotOfficer();
        refusesInOrder();
        whileDown();
        atTheLastSecond();
        Check.end();
    }

    private static void downAndIdleWithoutAnAdministrator() {
        SecureEntry station = Stations.upWith(Stations.OFFICER);
        station.insert(1);
        station.pass(3);
        Check.due("shutdown()", 1, station.shutdown());
        Check.counts(station, "after shutdown", 0, 0, 0, 0, 0, 0, 0, 5, 3, -1, -1);
    }

    /** "entry 15 before": the holder is still the administrator's. */
    private static void entryFifteenBefore() {
        SecureEntry station = Stations.upWith(Stations.OFFICER);
        station.pass(3);
        station.shutdown();
        Check.log(station, "after shutdown", 1, 0, -1, 10, 0, 50, 15, 3, 50);
    }

    /** "the latch locked at once (UNTIL is the time)". */
    private static void locksAtOnce() {
        SecureEntry station = Stations.upWith(Stations.OFFICER);
        Stations.giveAuthorisation(station, 0, 3, 0, Stations.ALWAYS);
        station.insert(0);
        station.remove();
        station.pass(1);
        Check.due("unlocked before", 1, station.count(3));
        station.shutdown();
        Check.due("unlocked after", 0, station.count(3));
        station.door(true);
        Check.newest(station, "after the door is opened", 15, 1, 50, 9, 1, -1);
        station.pass(9);
        Check.due("alarm at 10", 0, station.count(5));
        station.pass(1);
        Check.due("alarm at 11", 1, station.count(5));
        station.start();
        Check.due("unlocked after start", 0, station.count(3));
    }

    /** "tokens are out of the readers": they may be certified, and inserted after a start. */
    private static void tokensAreOut() {
        SecureEntry station = Stations.upWith(Stations.OFFICER);
        station.insert(1);
        station.shutdown();
        Check.due("certify of the outer one", 1, station.certify(1, 0, 0, 0, 0, 0, 0, 0));
        Check.due("certify of the inner one", 1, station.certify(5, 1, 0, 0, 0, 0, 0, 0));
        station.start();
        Check.due("insert of the inner one", 2, station.insert(5));
        Check.due("logon of the outer one", 0, station.logon(1));
    }

    private static void waitingEnds() {
        SecureEntry finger = Stations.upWith(Stations.OFFICER);
        Stations.giveGood(finger, 0, 5, 4);
        finger.insert(0);
        finger.shutdown();
        quietAfter(finger, "FINGER");
        SecureEntry enter = Stations.upWith(Stations.OFFICER);
        Stations.giveAuthorisation(enter, 0, 5, 0, Stations.ALWAYS);
        enter.insert(0);
        enter.shutdown();
        quietAfter(enter, "ENTER");
        Check.due("unlocked after shutdown in the state ENTER", 0, enter.count(3));
    }

    private static void quietAfter(SecureEntry station, String state) {
        int entries = station.count(7);
        station.pass(100);
        Check.due("entries after shutdown in the state " + state, entries, station.count(7));
        Check.due("user state", 0, station.count(1));
        station.start();
        station.pass(100);
        Check.due("entries after start", entries + 1, station.count(7));
    }

    private static void theAdministratorIsNotLoggedOffLater() {
        SecureEntry station = Stations.upWith(Stations.OFFICER, 5);
        station.shutdown();
        station.pass(20);
        Check.log(station, "after the authorisation has lapsed", 1, 0, -1, 10, 0, 50, 15, 0, 50);
    }

    /** "IllegalStateException: no administrator". */
    private static void noAdministrator() {
        Refusal.due(Check.STATE, "shutdown() with empty readers", Stations::up, SecureEntry::shutdown);
        Refusal.due(Check.STATE, "shutdown() for a refused token", () -> {
            SecureEntry station = Stations.up();
            station.logon(1);
            return station;
        }, SecureEntry::shutdown);
        for (int each = 1; each <= 3; each++) {
            int role = each;
            Refusal.due(Check.STATE, "shutdown() by a lapsed " + role, () -> Stations.upWithLapsed(role),
                    SecureEntry::shutdown);
        }
    }

    private static SecureEntry opened(int role) {
        SecureEntry station = Stations.upWith(role);
        station.insert(0);
        station.door(true);
        return station;
    }

    /** "or the door is open". */
    private static void theDoorIsOpen() {
        Refusal.due(Check.STATE, "shutdown() with the door open", () -> opened(Stations.OFFICER),
                SecureEntry::shutdown);
        Refusal.due(Check.STATE, "shutdown() with the door open and unlocked", () -> {
            SecureEntry station = Stations.upWith(Stations.OFFICER);
            Stations.giveAuthorisation(station, 0, 3, 0, Stations.ALWAYS);
            station.insert(0);
            station.remove();
            station.door(true);
            return station;
        }, SecureEntry::shutdown);
        SecureEntry station = opened(Stations.OFFICER);
        station.door(false);
        Check.due("shutdown() with the door closed again", 1, station.shutdown());
    }

    /** "UnsupportedOperationException: the role is not OFFICER." */
    private static void theRoleIsNotOfficer() {
        Refusal.due(Check.UNSUPPORTED, "shutdown() by a guard", () -> Stations.upWith(Stations.GUARD),
                SecureEntry::shutdown);
        Refusal.due(Check.UNSUPPORTED, "shutdown() by an auditor", () -> Stations.upWith(Stations.AUDITOR),
                SecureEntry::shutdown);
    }

    private static void refusesInOrder() {
        Refusal.due(Check.STATE, "shutdown() by a guard, the door open", () -> opened(Stations.GUARD),
                SecureEntry::shutdown);
        Refusal.due(Check.STATE, "shutdown() by an auditor, the door open", () -> opened(Stations.AUDITOR),
                SecureEntry::shutdown);
    }

    private static void whileDown() {
        Refusal.due(Check.STATE, "shutdown() while DOWN", Stations::enrolled, SecureEntry::shutdown);
        Refusal.due(Check.STATE, "shutdown() after shutdown", Stations::afterShutdown, SecureEntry::shutdown);
    }

    private static void atTheLastSecond() {
        SecureEntry station = Stations.upWith(Stations.OFFICER);
        Stations.passTo(station, 100000);
        Check.due("shutdown() at 100000", 1, station.shutdown());
        Check.newest(station, "at 100000", 15, 100000, 50);
        Check.due("unlocked at 100000", 0, station.count(3));
    }
}
