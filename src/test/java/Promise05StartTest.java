public final class Promise05StartTest {
    public static void main(String[] args) {
        startsAndCountsIssuers();
        refuses();
        startsAgain();
        Check.end();
    }

    private static void startsAndCountsIssuers() {
        SecureEntry station = new SecureEntry();
        for (int issuer = 0; issuer < 6; issuer++) {
            station.enrol(issuer, issuer + 1);
        }
        station.enrol(3, 0);
        station.pass(7);
        Check.due("start()", 5, station.start());
        Check.counts(station, "after start", 1, 0, 0, 0, 0, 0, 0, 1, 7, -1, -1);
        Check.log(station, "after start", 1, 7, -1);
    }

    private static void refuses() {
        SecureEntry station = new SecureEntry();
        Check.refused(station, Check.STATE, "start() without issuers", station::start);
        station.enrol(0, 1);
        station.enrol(0, 0);
        Check.refused(station, Check.STATE, "start() with an issuer struck off", station::start);
        station.enrol(5, 1);
        Check.due("start()", 1, station.start());
        Check.refused(station, Check.STATE, "start() while UP", station::start);
    }

    private static void startsAgain() {
        SecureEntry station = Stations.upWith(Stations.OFFICER);
        station.insert(1);
        station.shutdown();
        Check.due("start() after shutdown", 1, station.start());
        Check.counts(station, "after the second start", 1, 0, 0, 0, 0, 0, 0, 6, 0, -1, -1);
        Check.due("the last entry", 1, station.entry(5, 0));
        Check.due("its holder", -1, station.entry(5, 2));
    }
}
