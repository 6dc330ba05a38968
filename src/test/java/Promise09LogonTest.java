public final class Promise09LogonTest {
    public static void main(String[] args) {
        everyRole();
        refusedTokensStayIn();
        refusesInOrder();
        Check.end();
    }

    private static void everyRole() {
        for (int value = 0; value < 16; value++) {
            SecureEntry station = Stations.up();
            Stations.giveAuthorisation(station, 2, 33, value, Stations.ALWAYS);
            station.pass(1);
            int role = value % 4;
            Check.due("logon with value " + value, role, station.logon(2));
            Check.counts(station, "after logon", 1, 0, role, 0, 0, 0, 0, 2, 1, -1, 2);
            Check.log(station, "after logon", 1, 0, -1, role == 0 ? 16 : 10, 1, 33);
        }
    }

    private static void refusedTokensStayIn() {
        SecureEntry station = Stations.up();
        Check.due("logon of an empty token", 0, station.logon(1));
        Check.log(station, "after logon", 1, 0, -1, 16, 0, -1);
        Check.due("the inner reader", 1, station.count(10));
        station.logoff();
        Stations.giveGood(station, 1, 7, 1);
        Check.due("logon of a token that is good alone", 0, station.logon(1));
        Check.due("the holder", 7, station.entry(2, 2));
        station.logoff();
        station.certify(1, 3, 6, 7, 1, 0, 100, station.signature(3, 6, 7, 1, 0, 100) ^ 1);
        Check.due("logon with a wrong signature", 0, station.logon(1));
        station.logoff();
        station.certify(1, 3, 0, 7, 1, 0, 100, station.signature(3, 0, 7, 1, 0, 100));
        Check.due("logon with an authorisation by another", 0, station.logon(1));
        station.logoff();
        Stations.certifyRightly(station, 1, 3, 6, 8, 1, 100);
        Check.due("logon with two holders", 0, station.logon(1));
        station.logoff();
        Stations.certifyRightly(station, 1, 3, 6, 7, 17, 100);
        Check.due("logon with a value above 15", 0, station.logon(1));
    }

    private static void refusesInOrder() {
        SecureEntry down = Stations.enrolled();
        Check.refused(down, Check.STATE, "logon(6) while DOWN", () -> down.logon(6));
        SecureEntry station = Stations.up();
        station.insert(0);
        Check.refused(station, Check.STATE, "logon of the outer reader's", () -> station.logon(0));
        station.logon(1);
        Check.refused(station, Check.NO_ELEMENT, "logon(6)", () -> station.logon(6));
        Check.refused(station, Check.NO_ELEMENT, "logon(-1)", () -> station.logon(-1));
        Check.refused(station, Check.STATE, "logon into a filled reader", () -> station.logon(2));
        Check.refused(station, Check.STATE, "logon of the same", () -> station.logon(1));
    }
}
