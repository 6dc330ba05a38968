public final class Promise14ShutdownTest {
    public static void main(String[] args) {
        stationGoesDown();
        latchIsLockedAtOnce();
        waitingEnds();
        refusesInOrder();
        Check.end();
    }

    private static void stationGoesDown() {
        SecureEntry station = Stations.upWith(Stations.OFFICER);
        station.insert(1);
        station.pass(3);
        Check.due("shutdown()", 1, station.shutdown());
        Check.counts(station, "after shutdown", 0, 0, 0, 0, 0, 0, 0, 5, 3, -1, -1);
        Check.due("the last kind", 15, station.entry(4, 0));
        Check.due("the last time", 3, station.entry(4, 1));
        Check.due("the last holder", 50, station.entry(4, 2));
        Check.due("certify of the token that was in", 1, station.certify(1, 0, 0, 0, 0, 0, 0, 0));
        Check.refused(station, Check.STATE, "shutdown() while DOWN", station::shutdown);
    }

    private static void latchIsLockedAtOnce() {
        SecureEntry station = Stations.upWith(Stations.OFFICER);
        Stations.giveAuthorisation(station, 0, 3, 0, Stations.ALWAYS);
        station.insert(0);
        station.remove();
        station.pass(1);
        Check.due("unlocked before", 1, station.count(3));
        station.shutdown();
        Check.due("unlocked after", 0, station.count(3));
        int entries = station.count(7);
        station.door(true);
        Check.due("entries when the door is opened", entries + 1, station.count(7));
        Check.due("the kind", 9, station.entry(entries, 0));
    }

    private static void waitingEnds() {
        SecureEntry station = Stations.upWith(Stations.OFFICER);
        Stations.giveGood(station, 0, 5, 4);
        station.insert(0);
        station.shutdown();
        int entries = station.count(7);
        station.pass(100);
        Check.due("entries after shutdown in the state FINGER", entries, station.count(7));
        Check.due("user state", 0, station.count(1));
    }

    private static void refusesInOrder() {
        SecureEntry alone = Stations.up();
        alone.logon(1);
        Check.refused(alone, Check.STATE, "shutdown() without an administrator", alone::shutdown);
        SecureEntry guard = Stations.upWith(Stations.GUARD);
        Check.refused(guard, Check.UNSUPPORTED, "shutdown() by a guard", guard::shutdown);
        guard.door(true);
        Check.refused(guard, Check.STATE, "shutdown() by a guard, the door open", guard::shutdown);
        SecureEntry auditor = Stations.upWith(Stations.AUDITOR);
        Check.refused(auditor, Check.UNSUPPORTED, "shutdown() by an auditor", auditor::shutdown);
        SecureEntry officer = Stations.upWith(Stations.OFFICER);
        officer.door(true);
        Check.refused(officer, Check.STATE, "shutdown(), the door open", officer::shutdown);
        officer.door(false);
        Check.due("shutdown(), the door closed", 1, officer.shutdown());
    }
}
