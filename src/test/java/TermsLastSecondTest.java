/** The time at 100000: it goes no further, and every other call is as at any time. */
public final class TermsLastSecondTest {
    private static final int LAST = 100000;

    public static void main(String[] args) {
        usersComeAndGo();
        authorisedUsersEnter();
        guardAndDoor();
        auditor();
        officer();
        timeStandsStill();
        Check.end();
    }

    private static SecureEntry upAtLast() {
        SecureEntry station = Stations.up();
        Stations.passTo(station, LAST);
        return station;
    }

    private static SecureEntry upAtLastWith(int role) {
        SecureEntry station = upAtLast();
        Stations.giveAuthorisation(station, 1, 50, role, LAST);
        Check.due("logon at 100000", role, station.logon(1));
        return station;
    }

    private static void usersComeAndGo() {
        SecureEntry station = upAtLast();
        Stations.giveGood(station, 0, 5, 4);
        Check.due("insert at 100000", 1, station.insert(0));
        Check.due("finger at 100000", 2, station.finger(Stations.TEMPLATE));
        int right = Stations.rightSignature(Stations.STATION_KEY, 3, 5, 4, LAST, LAST);
        Check.certificate(station, 0, 3, 6, 5, 4, LAST, LAST, right, 1);
        Check.due("remove at 100000", 0, station.remove());
        Check.counts(station, "after remove", 1, 0, 0, 1, 0, 0, 0, 4, LAST, -1, -1);
        Check.newest(station, "after remove", 2, LAST, 5, 4, LAST, 5, 7, LAST, 5);
    }

    private static void authorisedUsersEnter() {
        SecureEntry station = upAtLast();
        Stations.giveAuthorisation(station, 0, 5, 0, LAST);
        Check.due("insert of an authorised token", 2, station.insert(0));
        station.remove();
        Stations.giveAuthorisation(station, 0, 5, 0, LAST - 1);
        Check.due("insert of one that has lapsed", 3, station.insert(0));
    }

    private static void guardAndDoor() {
        SecureEntry station = upAtLastWith(Stations.GUARD);
        Check.due("door at 100000", 1, station.door(true));
        Check.due("override at 100000", LAST + 5, station.override());
        Check.counts(station, "after override", 1, 0, 1, 1, 1, 0, 0, 4, LAST, -1, 1);
        Check.due("logoff at 100000", 1, station.logoff());
        Check.newest(station, "after logoff", 10, LAST, 50, 9, LAST, -1, 12, LAST, 50, 11, LAST, 50);
    }

    private static void auditor() {
        SecureEntry station = upAtLastWith(Stations.AUDITOR);
        Check.due("archive at 100000", 2, station.archive());
        Check.log(station, "after archive", 13, LAST, 50);
    }

    private static void officer() {
        SecureEntry station = upAtLastWith(Stations.OFFICER);
        Check.due("configure at 100000", 10, station.configure(1, 0));
        station.door(true);
        Check.due("alarm without silence at 100000", 1, station.count(5));
        station.door(false);
        Check.due("shutdown at 100000", 1, station.shutdown());
        Check.newest(station, "after shutdown", 14, LAST, 50, 9, LAST, -1, 15, LAST, 50);
        Check.due("start at 100000", 1, station.start());
    }

    private static void timeStandsStill() {
        for (int seconds : new int[] {1, 2, 1000}) {
            Refusal.due(Check.ARGUMENT, "pass(" + seconds + ") at 100000", () -> {
                SecureEntry station = upAtLastWith(Stations.GUARD);
                Stations.giveGood(station, 0, 5, 4);
                station.insert(0);
                return station;
            }, station -> station.pass(seconds));
        }
    }
}
