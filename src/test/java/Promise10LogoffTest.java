public final class Promise10LogoffTest {
    public static void main(String[] args) {
        administratorGoes();
        tokenWithoutAdministratorGoes();
        refuses();
        Check.end();
    }

    private static void administratorGoes() {
        SecureEntry station = Stations.upWith(Stations.AUDITOR);
        station.pass(4);
        Check.due("logoff()", Stations.ADMINISTRATOR, station.logoff());
        Check.counts(station, "after logoff", 1, 0, 0, 0, 0, 0, 0, 3, 4, -1, -1);
        Check.log(station, "after logoff", 1, 0, -1, 10, 0, 50, 11, 4, 50);
        Check.refused(station, Check.STATE, "archive() after logoff", station::archive);
        Check.due("logon again", 2, station.logon(Stations.ADMINISTRATOR));
    }

    private static void tokenWithoutAdministratorGoes() {
        SecureEntry station = Stations.up();
        station.logon(3);
        Check.due("logoff()", 3, station.logoff());
        Check.log(station, "after logoff", 1, 0, -1, 16, 0, -1);
        Check.due("the inner reader", -1, station.count(10));
    }

    private static void refuses() {
        SecureEntry down = Stations.enrolled();
        Check.refused(down, Check.STATE, "logoff() while DOWN", down::logoff);
        SecureEntry station = Stations.up();
        station.insert(1);
        Check.refused(station, Check.STATE, "logoff() of none", station::logoff);
        station.logon(2);
        station.logoff();
        Check.refused(station, Check.STATE, "logoff() twice", station::logoff);
    }
}
