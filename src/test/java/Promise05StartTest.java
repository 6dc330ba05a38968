public final class Promise05StartTest {
    public static void main(String[] args) {
        upAndIdleWithoutAnAdministrator();
        entryOne();
        answersHowManyAreEnrolled();
        whileUp();
        withoutAnIssuer();
        startsAgain();
        withTheDoorOpen();
        atTheLastSecond();
        intoAFullLog();
        Check.end();
    }

    private static void upAndIdleWithoutAnAdministrator() {
        SecureEntry station = Stations.enrolled();
        station.pass(7);
        Check.due("start()", 1, station.start());
        Check.counts(station, "after start", 1, 0, 0, 0, 0, 0, 0, 1, 7, -1, -1);
    }

    private static void entryOne() {
        SecureEntry station = Stations.enrolled();
        station.pass(7);
        station.start();
        Check.log(station, "after start", 1, 7, -1);
    }

    /** "Answers how many issuers are enrolled", the station itself not counted. */
    private static void answersHowManyAreEnrolled() {
        for (int choice = 1; choice < 64; choice++) {
            SecureEntry station = new SecureEntry();
            for (int issuer = 0; issuer < 6; issuer++) {
                station.enrol(issuer, 9972);
                station.enrol(issuer, choice >> issuer & 1);
            }
            Check.due("start() with the issuers " + choice, Integer.bitCount(choice), station.start());
        }
    }

    /** "IllegalStateException: it is UP", whatever is in the readers. */
    private static void whileUp() {
        Refusal.due(Check.STATE, "start() while UP", Stations::up, SecureEntry::start);
        Refusal.due(Check.STATE, "start() in the state FINGER", () -> Stations.upForFinger(4), SecureEntry::start);
        Refusal.due(Check.STATE, "start() in the state ENTER", Stations::upForEntry, SecureEntry::start);
        Refusal.due(Check.STATE, "start() in the state WAIT", Stations::upForRemoval, SecureEntry::start);
        Refusal.due(Check.STATE, "start() with an administrator", () -> Stations.upWith(Stations.OFFICER),
                SecureEntry::start);
    }

    /** "or no issuer is enrolled". */
    private static void withoutAnIssuer() {
        Refusal.due(Check.STATE, "start() of a new object", SecureEntry::new, SecureEntry::start);
        Refusal.due(Check.STATE, "start() with all issuers struck off", () -> {
            SecureEntry station = new SecureEntry();
            for (int issuer = 0; issuer < 6; issuer++) {
                station.enrol(issuer, 1);
                station.enrol(issuer, 0);
            }
            return station;
        }, SecureEntry::start);
        Refusal.due(Check.STATE, "start() after shutdown, the issuer struck off", () -> {
            SecureEntry station = Stations.afterShutdown();
            station.enrol(0, 0);
            return station;
        }, SecureEntry::start);
    }

    /** A station that is DOWN has no token in a reader: shutdown takes both out. */
    private static void startsAgain() {
        SecureEntry station = Stations.upWith(Stations.OFFICER);
        station.insert(1);
        station.pass(2);
        station.shutdown();
        Check.due("start() after shutdown", 1, station.start());
        Check.counts(station, "after the second start", 1, 0, 0, 0, 0, 0, 0, 6, 2, -1, -1);
        Check.newest(station, "after the second start", 15, 2, 50, 1, 2, -1);
        Check.due("insert of the token that was in", 3, station.insert(1));
        Check.due("logon of the token that was in", 3, station.logon(Stations.ADMINISTRATOR));
    }

    private static void withTheDoorOpen() {
        SecureEntry station = Stations.enrolled();
        station.door(true);
        station.pass(9);
        Check.due("start() with the door open", 1, station.start());
        Check.counts(station, "after start", 1, 0, 0, 0, 1, 0, 0, 2, 9, -1, -1);
        station.pass(1);
        Check.due("alarm at 10", 1, station.count(5));
    }

    private static void atTheLastSecond() {
        SecureEntry station = Stations.enrolled();
        Stations.passTo(station, 100000);
        Check.due("start() at 100000", 1, station.start());
        Check.log(station, "after start", 1, 100000, -1);
    }

    private static void intoAFullLog() {
        SecureEntry station = Stations.enrolled();
        Stations.fillLog(station, 16);
        Check.due("start() with a full log", 1, station.start());
        Check.due("entries", 13, station.count(7));
        Check.due("log alarm", 1, station.count(6));
        Check.newest(station, "after start", 9, 0, -1, 1, 0, -1);
    }
}
