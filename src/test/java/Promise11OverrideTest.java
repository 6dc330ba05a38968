public final class Promise11OverrideTest {
    public static void main(String[] args) {
        unlocksWithEntryTwelve();
        answersUntil();
        anew();
        silencesTheAlarm();
        configuredUnlocking();
        atTheLastSecond();
        theUserStateStays();
        thereIsNone();
        theRoleIsNotGuard();
        whileDown();
        Check.end();
    }

    private static void unlocksWithEntryTwelve() {
        SecureEntry station = Stations.upWith(Stations.GUARD);
        station.pass(3);
        station.override();
        Check.log(station, "after override", 1, 0, -1, 10, 0, 50, 12, 3, 50);
        Check.counts(station, "after override", 1, 0, 1, 1, 0, 0, 0, 3, 3, -1, 5);
        station.pass(4);
        Check.due("unlocked at 7", 1, station.count(3));
        station.pass(1);
        Check.due("unlocked at 8", 0, station.count(3));
    }

    private static void answersUntil() {
        SecureEntry station = Stations.upWith(Stations.GUARD);
        Check.due("override() at 0", 5, station.override());
        station.pass(3);
        Check.due("override() at 3", 8, station.override());
    }

    private static void anew() {
        SecureEntry station = Stations.upWith(Stations.GUARD);
        station.override();
        station.pass(4);
        station.override();
        station.pass(4);
        Check.due("unlocked at 8", 1, station.count(3));
        station.pass(1);
        Check.due("unlocked at 9", 0, station.count(3));
    }

    /** "the alarm time to UNTIL plus SILENCE", for a door that is open already too. */
    private static void silencesTheAlarm() {
        SecureEntry station = Stations.upWith(Stations.GUARD);
        station.door(true);
        station.pass(10);
        Check.due("alarm at 10", 1, station.count(5));
        Check.due("override()", 15, station.override());
        Check.due("alarm after override", 0, station.count(5));
        station.pass(14);
        Check.due("alarm at 24", 0, station.count(5));
        station.pass(1);
        Check.due("alarm at 25", 1, station.count(5));
    }

    private static SecureEntry configured(int latch, int silence) {
        SecureEntry station = Stations.upWith(Stations.OFFICER);
        station.configure(0, latch);
        station.configure(1, silence);
        station.logoff();
        Stations.giveAuthorisation(station, 1, 8, Stations.GUARD, Stations.ALWAYS);
        station.logon(1);
        return station;
    }

    private static void configuredUnlocking() {
        int[] latches = {0, 0, 1000, 1000, 1};
        int[] silences = {0, 1000, 0, 1000, 1};
        for (int turn = 0; turn < latches.length; turn++) {
            SecureEntry station = configured(latches[turn], silences[turn]);
            int until = latches[turn];
            int alarm = until + silences[turn];
            Check.due("override() for " + until, until, station.override());
            Check.due("unlocked for " + until, until == 0 ? 0 : 1, station.count(3));
            int entries = station.count(7);
            station.door(true);
            Check.due("entries after opening", entries + (until == 0 ? 1 : 0), station.count(7));
            Stations.passTo(station, alarm - 1);
            Check.due("alarm before " + alarm, alarm == 0 ? 1 : 0, station.count(5));
            Stations.passTo(station, alarm);
            Check.due("alarm at " + alarm, 1, station.count(5));
        }
    }

    /** UNTIL is the time plus LATCH, though the time itself ends at 100000. */
    private static void atTheLastSecond() {
        SecureEntry station = Stations.upWith(Stations.GUARD);
        Stations.passTo(station, 100000);
        Check.due("override() at 100000", 100005, station.override());
        Check.due("unlocked at 100000", 1, station.count(3));
        Check.newest(station, "at 100000", 12, 100000, 50);
    }

    private static void theUserStateStays() {
        SecureEntry station = Stations.upWith(Stations.GUARD);
        Stations.giveGood(station, 0, 5, 4);
        station.insert(0);
        station.pass(1);
        station.override();
        Check.due("user state", 1, station.count(1));
        station.pass(18);
        Check.due("user state at 19", 1, station.count(1));
        station.pass(1);
        Check.due("user state at 20", 3, station.count(1));
    }

    /** "IllegalStateException: there is none." */
    private static void thereIsNone() {
        Refusal.due(Check.STATE, "override() with empty readers", Stations::up, SecureEntry::override);
        Refusal.due(Check.STATE, "override() for a refused token", () -> {
            SecureEntry station = Stations.up();
            station.logon(1);
            return station;
        }, SecureEntry::override);
        Refusal.due(Check.STATE, "override() after logoff", () -> {
            SecureEntry station = Stations.upWith(Stations.GUARD);
            station.logoff();
            return station;
        }, SecureEntry::override);
        for (int each = 1; each <= 3; each++) {
            int role = each;
            Refusal.due(Check.STATE, "override() by a lapsed " + role, () -> Stations.upWithLapsed(role),
                    SecureEntry::override);
        }
    }

    /** "UnsupportedOperationException: the role is not GUARD." */
    private static void theRoleIsNotGuard() {
        Refusal.due(Check.UNSUPPORTED, "override() by an auditor", () -> Stations.upWith(Stations.AUDITOR),
                SecureEntry::override);
        Refusal.due(Check.UNSUPPORTED, "override() by an officer", () -> Stations.upWith(Stations.OFFICER),
                SecureEntry::override);
    }

    private static void whileDown() {
        Refusal.due(Check.STATE, "override() while DOWN", Stations::enrolled, SecureEntry::override);
        Refusal.due(Check.STATE, "override() after shutdown", Stations::afterShutdown, SecureEntry::override);
    }
}
