public final class Promise11OverrideTest {
    public static void main(String[] args) {
        guardUnlocks();
        overrideSilencesTheAlarm();
        refusesInOrder();
        Check.end();
    }

    private static void guardUnlocks() {
        SecureEntry station = Stations.upWith(Stations.GUARD);
        station.pass(3);
        Check.due("override()", 8, station.override());
        Check.log(station, "after override", 1, 0, -1, 10, 0, 50, 12, 3, 50);
        Check.due("unlocked at 3", 1, station.count(3));
        station.pass(2);
        Check.due("override() again", 10, station.override());
        station.pass(4);
        Check.due("unlocked at 9", 1, station.count(3));
        station.pass(1);
        Check.due("unlocked at 10", 0, station.count(3));
    }

    private static void overrideSilencesTheAlarm() {
        SecureEntry station = Stations.upWith(Stations.GUARD);
        station.door(true);
        station.pass(10);
        Check.due("alarm at 10", 1, station.count(5));
        Check.due("override()", 15, station.override());
        Check.due("alarm after override", 0, station.count(5));
        station.pass(14);
        Check.due("alarm at 24", 0, station.count(5));
        station.pass(1);
        Check.due("alarm at 25", 1, station.count(5));
    }

    private static void refusesInOrder() {
        SecureEntry down = Stations.enrolled();
        Check.refused(down, Check.STATE, "override() while DOWN", down::override);
        SecureEntry alone = Stations.up();
        Check.refused(alone, Check.STATE, "override() without a token", alone::override);
        alone.logon(1);
        Check.refused(alone, Check.STATE, "override() without an administrator", alone::override);
        SecureEntry auditor = Stations.upWith(Stations.AUDITOR);
        Check.refused(auditor, Check.UNSUPPORTED, "override() by an auditor", auditor::override);
        SecureEntry officer = Stations.upWith(Stations.OFFICER);
        Check.refused(officer, Check.UNSUPPORTED, "override() by an officer", officer::override);
    }
}
