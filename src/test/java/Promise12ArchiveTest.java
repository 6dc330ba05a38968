public final class Promise12ArchiveTest {
    public static void main(String[] args) {
        emptiesTheLog();
        turnsTheLogAlarmOff();
        refusesInOrder();
        Check.end();
    }

    private static void emptiesTheLog() {
        SecureEntry station = Stations.upWith(Stations.AUDITOR);
        station.pass(6);
        Check.due("archive()", 2, station.archive());
        Check.log(station, "after archive", 13, 6, 50);
        Check.due("archive() again", 1, station.archive());
        Check.log(station, "after archive", 13, 6, 50);
        Check.refused(station, Check.NO_ELEMENT, "entry(1, 0) after archive", () -> station.entry(1, 0));
    }

    private static void turnsTheLogAlarmOff() {
        SecureEntry station = Stations.upWith(Stations.AUDITOR);
        for (int turn = 0; turn < 7; turn++) {
            station.insert(0);
            station.remove();
        }
        Check.due("entries", 16, station.count(7));
        Check.due("log alarm of a full log", 0, station.count(6));
        station.door(true);
        Check.due("log alarm after a 17th", 1, station.count(6));
        Check.due("archive()", 13, station.archive());
        Check.due("log alarm after archive", 0, station.count(6));
        Check.log(station, "after archive", 13, 0, 50);
    }

    private static void refusesInOrder() {
        SecureEntry down = Stations.enrolled();
        Check.refused(down, Check.STATE, "archive() while DOWN", down::archive);
        SecureEntry alone = Stations.up();
        alone.logon(1);
        Check.refused(alone, Check.STATE, "archive() without an administrator", alone::archive);
        SecureEntry guard = Stations.upWith(Stations.GUARD);
        Check.refused(guard, Check.UNSUPPORTED, "archive() by a guard", guard::archive);
        SecureEntry officer = Stations.upWith(Stations.OFFICER);
        Check.refused(officer, Check.UNSUPPORTED, "archive() by an officer", officer::archive);
    }
}
