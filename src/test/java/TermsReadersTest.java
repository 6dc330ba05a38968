/** The sentences of the terms on the readers, the user states and the administrator. */
public final class TermsReadersTest {
    public static void main(String[] args) {
        aTokenIsInOneReaderAtMost();
        theReadersAreApart();
        usersComeAndGoBesideAnAdministrator();
        anAuthorisationByFingerMakesAnAdministrator();
        Check.end();
    }

    /** "each holds a token or none; a token is in one of them at most". */
    private static void aTokenIsInOneReaderAtMost() {
        for (int each = 0; each < 6; each++) {
            int token = each;
            Refusal.due(Check.STATE, "logon of the outer one " + token, () -> {
                SecureEntry station = Stations.up();
                station.insert(token);
                return station;
            }, station -> station.logon(token));
            Refusal.due(Check.STATE, "insert of the inner one " + token, () -> {
                SecureEntry station = Stations.up();
                station.logon(token);
                return station;
            }, station -> station.insert(token));
        }
    }

    private static void theReadersAreApart() {
        SecureEntry station = Stations.up();
        station.insert(0);
        station.logon(1);
        station.remove();
        Check.due("insert beside the inner one", 3, station.insert(2));
        station.logoff();
        Check.due("logon beside the outer one", 0, station.logon(3));
        Check.counts(station, "with both filled", 1, 3, 0, 0, 0, 0, 0, 7, 0, 2, 3);
        station.remove();
        station.logoff();
        Check.due("insert of the one that was inside", 3, station.insert(3));
        Check.due("logon of the one that was outside", 0, station.logon(2));
    }

    private static void usersComeAndGoBesideAnAdministrator() {
        SecureEntry station = Stations.upWith(Stations.GUARD);
        Stations.giveGood(station, 0, 5, 4);
        station.insert(0);
        station.finger(Stations.TEMPLATE);
        Check.counts(station, "in the state ENTER", 1, 2, 1, 0, 0, 0, 0, 5, 0, 0, 5);
        station.logoff();
        Check.counts(station, "after logoff", 1, 2, 0, 0, 0, 0, 0, 6, 0, 0, -1);
        station.remove();
        Check.counts(station, "after remove", 1, 0, 0, 1, 0, 0, 0, 6, 0, -1, -1);
    }

    /** "a role 1 .. 3 by its authorisation", which is as long as PERIOD when a finger gave it. */
    private static void anAuthorisationByFingerMakesAnAdministrator() {
        for (int privilege = 0; privilege < 16; privilege++) {
            SecureEntry station = Stations.upForFinger(privilege);
            station.finger(Stations.TEMPLATE);
            station.remove();
            int role = privilege % 4;
            Check.due("logon with the privilege " + privilege, role, station.logon(0));
            station.pass(100);
            Check.due("role at 100", role, station.count(2));
            station.pass(1);
            Check.due("role at 101", 0, station.count(2));
            Check.due("the inner reader at 101", 0, station.count(10));
        }
    }
}
