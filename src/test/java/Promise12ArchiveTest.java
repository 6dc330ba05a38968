public final class Promise12ArchiveTest {
    public static void main(String[] args) {
        emptiesTheLogThenEntryThirteen();
        answersHowManyThereWere();
        turnsTheLogAlarmOff();
        theLogAlarmComesAgain();
        noAdministrator();
        theRoleIsNotAuditor();
        whileDown();
        Check.end();
    }

    private static void emptiesTheLogThenEntryThirteen() {
        SecureEntry station = Stations.upWith(Stations.AUDITOR);
        station.pass(6);
        Check.due("archive()", 2, station.archive());
        Check.log(station, "after archive", 13, 6, 50);
        Check.counts(station, "after archive", 1, 0, 2, 0, 0, 0, 0, 1, 6, -1, 5);
        Refusal.due(Check.NO_ELEMENT, "entry(1, 0) after archive", () -> {
            SecureEntry archived = Stations.upWith(Stations.AUDITOR);
            archived.archive();
            return archived;
        }, archived -> archived.entry(1, 0));
    }

    private static void answersHowManyThereWere() {
        for (int entries = 2; entries <= 16; entries++) {
            SecureEntry station = Stations.upWith(Stations.AUDITOR);
            Stations.fillLog(station, entries);
            Check.due("archive() of " + entries, entries, station.archive());
            Check.log(station, "after archive", 13, 0, 50);
            Check.due("archive() again", 1, station.archive());
            Check.log(station, "after archive again", 13, 0, 50);
        }
    }

    /** "its alarm off", though it had been on, and an archive of a full log never turns it on. */
    private static void turnsTheLogAlarmOff() {
        SecureEntry full = Stations.upWith(Stations.AUDITOR);
        Stations.fillLog(full, 16);
        Check.due("log alarm of 16 entries", 0, full.count(6));
        Check.due("archive() of 16", 16, full.archive());
        Check.due("log alarm after archive", 0, full.count(6));
        SecureEntry over = Stations.upWith(Stations.AUDITOR);
        Stations.fillLog(over, 16);
        over.door(true);
        Check.due("log alarm after a 17th", 1, over.count(6));
        Check.due("archive() after a 17th", 13, over.archive());
        Check.due("log alarm after archive", 0, over.count(6));
        Check.log(over, "after archive", 13, 0, 50);
    }

    private static void theLogAlarmComesAgain() {
        SecureEntry station = Stations.upWith(Stations.AUDITOR);
        Stations.fillLog(station, 16);
        station.door(true);
        station.archive();
        station.door(false);
        Stations.fillLog(station, 16);
        Check.due("log alarm of 16 entries after archive", 0, station.count(6));
        station.door(true);
        Check.due("log alarm after a 17th after archive", 1, station.count(6));
        Check.due("entries", 13, station.count(7));
    }

    /** "IllegalStateException: no administrator." */
    private static void noAdministrator() {
        Refusal.due(Check.STATE, "archive() with empty readers", Stations::up, SecureEntry::archive);
        Refusal.due(Check.STATE, "archive() for a refused token", () -> {
            SecureEntry station = Stations.up();
            station.logon(1);
            return station;
        }, SecureEntry::archive);
        for (int each = 1; each <= 3; each++) {
            int role = each;
            Refusal.due(Check.STATE, "archive() by a lapsed " + role, () -> Stations.upWithLapsed(role),
                    SecureEntry::archive);
        }
    }

    private static SecureEntry overfull(int role) {
        SecureEntry station = Stations.upWith(role);
        Stations.fillLog(station, 16);
        station.door(true);
        return station;
    }

    /** "UnsupportedOperationException: the role is not AUDITOR." */
    private static void theRoleIsNotAuditor() {
        Refusal.due(Check.UNSUPPORTED, "archive() by a guard", () -> overfull(Stations.GUARD),
                SecureEntry::archive);
        Refusal.due(Check.UNSUPPORTED, "archive() by an officer", () -> overfull(Stations.OFFICER),
                SecureEntry::archive);
    }

    private static void whileDown() {
        Refusal.due(Check.STATE, "archive() while DOWN", Stations::enrolled, SecureEntry::archive);
        Refusal.due(Check.STATE, "archive() after shutdown", Stations::afterShutdown, SecureEntry::archive);
    }
}
