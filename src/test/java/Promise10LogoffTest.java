public final class Promise10LogoffTest {
    public static void main(String[] args) {
        withAnAdministrator();
        withoutAnAdministrator();
        withALapsedAdministrator();
        answersTheToken();
        theOuterReaderStays();
        noneIsThere();
        whileDown();
        Check.end();
    }

    /** "with an administrator: entry 11, and there is none". */
    private static void withAnAdministrator() {
        for (int role = 1; role <= 3; role++) {
            SecureEntry station = Stations.upWith(role);
            station.pass(4);
            Check.due("logoff()", Stations.ADMINISTRATOR, station.logoff());
            Check.counts(station, "after logoff", 1, 0, 0, 0, 0, 0, 0, 3, 4, -1, -1);
            Check.log(station, "after logoff", 1, 0, -1, 10, 0, 50, 11, 4, 50);
            Check.due("logon again", role, station.logon(Stations.ADMINISTRATOR));
        }
    }

    private static void withoutAnAdministrator() {
        SecureEntry station = Stations.up();
        station.logon(3);
        Check.due("logoff()", 3, station.logoff());
        Check.log(station, "after logoff", 1, 0, -1, 16, 0, -1);
        Check.due("the inner reader", -1, station.count(10));
    }

    private static void withALapsedAdministrator() {
        SecureEntry station = Stations.upWithLapsed(Stations.GUARD);
        Check.due("logoff()", Stations.ADMINISTRATOR, station.logoff());
        Check.log(station, "after logoff", 1, 0, -1, 10, 0, 50, 11, 4, 50);
        Check.counts(station, "after logoff", 1, 0, 0, 0, 0, 0, 0, 3, 4, -1, -1);
    }

    private static void answersTheToken() {
        for (int token = 0; token < 6; token++) {
            SecureEntry station = Stations.up();
            station.logon(token);
            Check.due("logoff()", token, station.logoff());
        }
    }

    private static void theOuterReaderStays() {
        SecureEntry station = Stations.upForFinger(4);
        station.logon(1);
        station.logoff();
        Check.counts(station, "after logoff", 1, 1, 0, 0, 0, 0, 0, 3, 0, 0, -1);
    }

    /** "IllegalStateException: none is there." */
    private static void noneIsThere() {
        Refusal.due(Check.STATE, "logoff() of none", Stations::up, SecureEntry::logoff);
        Refusal.due(Check.STATE, "logoff() beside a filled outer reader", Stations::upForEntry,
                SecureEntry::logoff);
        Refusal.due(Check.STATE, "logoff() a second time", () -> {
            SecureEntry station = Stations.upWith(Stations.GUARD);
            station.logoff();
            return station;
        }, SecureEntry::logoff);
    }

    private static void whileDown() {
        Refusal.due(Check.STATE, "logoff() while DOWN", Stations::enrolled, SecureEntry::logoff);
        Refusal.due(Check.STATE, "logoff() after shutdown", Stations::afterShutdown, SecureEntry::logoff);
    }
}
