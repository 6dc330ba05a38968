public final class Promise19CountTest {
    public static void main(String[] args) {
        everyNumberTogether();
        upAndDown();
        everyUserState();
        everyRole();
        everyTokenInTheReaders();
        everyLengthOfTheLog();
        theTimeAtItsEnds();
        anotherNumber();
        changesNothing();
        Check.end();
    }

    private static void everyNumberTogether() {
        SecureEntry station = Stations.upWith(Stations.GUARD);
        Stations.giveGood(station, 2, 9, 4);
        station.pass(6);
        station.insert(2);
        station.override();
        station.door(true);
        Check.counts(station, "while unlocked", 1, 1, 1, 1, 1, 0, 0, 4, 6, 2, 5);
        station.pass(15);
        Check.counts(station, "while the alarm sounds", 1, 1, 1, 0, 1, 1, 0, 4, 21, 2, 5);
    }

    private static void upAndDown() {
        Check.due("count(0) while DOWN", 0, Stations.enrolled().count(0));
        Check.due("count(0) while UP", 1, Stations.up().count(0));
        Check.due("count(0) after shutdown", 0, Stations.afterShutdown().count(0));
    }

    private static void everyUserState() {
        Check.due("count(1) while IDLE", 0, Stations.up().count(1));
        Check.due("count(1) in the state FINGER", 1, Stations.upForFinger(4).count(1));
        Check.due("count(1) in the state ENTER", 2, Stations.upForEntry().count(1));
        Check.due("count(1) in the state WAIT", 3, Stations.upForRemoval().count(1));
    }

    private static void everyRole() {
        Check.due("count(2) without one", 0, Stations.up().count(2));
        for (int role = 1; role <= 3; role++) {
            Check.due("count(2)", role, Stations.upWith(role).count(2));
            Check.due("count(2) of a lapsed one", 0, Stations.upWithLapsed(role).count(2));
            Check.due("count(10) of a lapsed one", 5, Stations.upWithLapsed(role).count(10));
        }
    }

    private static void everyTokenInTheReaders() {
        for (int outer = 0; outer < 6; outer++) {
            SecureEntry station = Stations.up();
            int inner = 5 - outer;
            station.insert(outer);
            Check.due("count(9)", outer, station.count(9));
            Check.due("count(10) of none", -1, station.count(10));
            station.logon(inner);
            Check.due("count(10)", inner, station.count(10));
            station.remove();
            Check.due("count(9) of none", -1, station.count(9));
            Check.due("count(10) after remove", inner, station.count(10));
        }
    }

    private static void everyLengthOfTheLog() {
        for (int entries = 0; entries <= 16; entries++) {
            SecureEntry station = new SecureEntry();
            Stations.fillLog(station, entries);
            Check.due("count(7)", entries, station.count(7));
            Check.due("count(6) of " + entries, 0, station.count(6));
        }
    }

    private static void theTimeAtItsEnds() {
        SecureEntry station = new SecureEntry();
        Check.due("count(8) at first", 0, station.count(8));
        Stations.passTo(station, 99999);
        Check.due("count(8)", 99999, station.count(8));
        station.pass(1);
        Check.due("count(8) in the end", 100000, station.count(8));
    }

    /** "IllegalArgumentException: another number." */
    private static void anotherNumber() {
        Refusal.outside(0, 10, Check.ARGUMENT, "count", Stations::up, SecureEntry::count);
        Refusal.outside(0, 10, Check.ARGUMENT, "count of a new object", SecureEntry::new, SecureEntry::count);
        Check.due("count(0), the lowest", 1, Stations.up().count(0));
        Check.due("count(10), the highest", -1, Stations.up().count(10));
    }

    private static void changesNothing() {
        SecureEntry station = Stations.upForFinger(4);
        String before = Stations.wholeView(station);
        Check.same("a second look", before, Stations.wholeView(station));
    }
}
