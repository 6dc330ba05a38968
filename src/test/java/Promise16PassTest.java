public final class Promise16PassTest {
    public static void main(String[] args) {
        timeGoesOn();
        waitingForAFingerEnds();
        waitingToEnterStartsAnew();
        waitingForRemovalDoesNotEnd();
        configuredWaiting();
        administratorIsLoggedOff();
        onlyTheAuthorisationCounts();
        waitingEndsBeforeAdministration();
        refuses();
        Check.end();
    }

    private static void timeGoesOn() {
        SecureEntry station = new SecureEntry();
        Check.due("pass(1)", 1, station.pass(1));
        Check.due("pass(1000)", 1001, station.pass(1000));
        Check.due("the time", 1001, station.count(8));
        Check.due("entries", 0, station.count(7));
    }

    private static void waitingForAFingerEnds() {
        SecureEntry station = Stations.up();
        Stations.giveGood(station, 0, 5, 4);
        station.pass(3);
        station.insert(0);
        station.pass(19);
        Check.due("user state at 22", 1, station.count(1));
        Check.due("pass(500)", 522, station.pass(500));
        Check.due("user state", 3, station.count(1));
        Check.due("the outer reader", 0, station.count(9));
        Check.log(station, "after the time is out", 1, 0, -1, 2, 3, 5, 6, 23, 5);
    }

    private static void waitingToEnterStartsAnew() {
        SecureEntry station = Stations.upForFinger(4);
        station.pass(15);
        station.finger(Stations.TEMPLATE);
        station.pass(19);
        Check.due("user state at 34", 2, station.count(1));
        station.pass(1);
        Check.due("user state at 35", 3, station.count(1));
        Check.log(station, "after the time is out", 1, 0, -1, 2, 0, 5, 4, 15, 5, 7, 15, 5, 6, 35, 5);
        station.remove();
        Check.due("unlocked after the time is out", 0, station.count(3));
    }

    private static void waitingForRemovalDoesNotEnd() {
        SecureEntry station = Stations.up();
        station.insert(0);
        station.pass(1000);
        Check.due("user state", 3, station.count(1));
        Check.due("entries", 3, station.count(7));
    }

    private static void configuredWaiting() {
        SecureEntry station = Stations.upWith(Stations.OFFICER);
        Stations.giveAuthorisation(station, 0, 3, 0, Stations.ALWAYS);
        station.configure(2, 0);
        Check.due("insert with a wait of 0", 2, station.insert(0));
        station.pass(1);
        Check.due("user state after a second", 3, station.count(1));
        station.remove();
        station.configure(2, 30);
        station.insert(0);
        station.pass(25);
        Check.due("user state after 25 of 30 seconds", 2, station.count(1));
        station.configure(2, 10);
        Check.due("user state when the wait is set lower", 2, station.count(1));
        station.pass(2);
        Check.due("user state after that", 3, station.count(1));
        Check.due("the kind", 6, station.entry(station.count(7) - 1, 0));
        Check.due("the time", 27, station.entry(station.count(7) - 1, 1));
    }

    private static void administratorIsLoggedOff() {
        SecureEntry station = Stations.up();
        Stations.giveAuthorisation(station, 1, 7, 1, 50);
        station.logon(1);
        station.pass(50);
        Check.due("role at 50", 1, station.count(2));
        station.pass(10);
        Check.counts(station, "at 60", 1, 0, 0, 0, 0, 0, 0, 3, 60, -1, 1);
        Check.log(station, "at 60", 1, 0, -1, 10, 0, 7, 11, 51, 7);
        Check.due("logoff()", 1, station.logoff());
        Check.due("entries after logoff", 3, station.count(7));
        Check.due("logon again", 0, station.logon(1));
    }

    private static void onlyTheAuthorisationCounts() {
        SecureEntry station = Stations.up();
        Stations.giveAuthorisation(station, 1, 7, 1, Stations.ALWAYS);
        Stations.certifyRightly(station, 1, 0, 0, 7, 0, 10);
        station.logon(1);
        station.pass(20);
        Check.due("role after the ID is out of time", 1, station.count(2));
        Check.due("override()", 25, station.override());
    }

    private static void waitingEndsBeforeAdministration() {
        SecureEntry station = Stations.up();
        Stations.giveAuthorisation(station, 1, 7, 2, 19);
        Stations.giveGood(station, 0, 5, 4);
        station.logon(1);
        station.insert(0);
        station.pass(40);
        Check.log(station, "at 40", 1, 0, -1, 10, 0, 7, 2, 0, 5, 6, 20, 5, 11, 20, 7);
    }

    private static void refuses() {
        SecureEntry station = new SecureEntry();
        Check.refused(station, Check.ARGUMENT, "pass(0)", () -> station.pass(0));
        Check.refused(station, Check.ARGUMENT, "pass(-1)", () -> station.pass(-1));
        Check.refused(station, Check.ARGUMENT, "pass(1001)", () -> station.pass(1001));
        Check.refused(station, Check.ARGUMENT, "pass(most)", () -> station.pass(Integer.MAX_VALUE));
        SecureEntry late = new SecureEntry();
        Stations.passTo(late, 99500);
        Check.refused(late, Check.ARGUMENT, "pass(501) at 99500", () -> late.pass(501));
        Check.due("pass(500) at 99500", 100000, late.pass(500));
        Check.refused(late, Check.ARGUMENT, "pass(1) at 100000", () -> late.pass(1));
    }
}
