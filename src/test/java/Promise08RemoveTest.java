public final class Promise08RemoveTest {
    public static void main(String[] args) {
        afterEnterUnlocks();
        configuredUnlocking();
        afterFingerIsTooEarly();
        afterWaitDoesNothingMore();
        refuses();
        Check.end();
    }

    private static void afterEnterUnlocks() {
        SecureEntry station = Stations.upForFinger(4);
        station.finger(Stations.TEMPLATE);
        station.pass(2);
        Check.due("remove() in the state ENTER", 0, station.remove());
        Check.counts(station, "after remove", 1, 0, 0, 1, 0, 0, 0, 4, 2, -1, -1);
        station.door(true);
        Check.due("entries", 4, station.count(7));
        station.pass(4);
        Check.due("unlocked at 6", 1, station.count(3));
        station.pass(1);
        Check.due("unlocked at 7", 0, station.count(3));
        station.pass(9);
        Check.due("alarm at 16", 0, station.count(5));
        station.pass(1);
        Check.due("alarm at 17", 1, station.count(5));
    }

    private static void configuredUnlocking() {
        SecureEntry station = Stations.upWith(Stations.OFFICER);
        station.configure(0, 0);
        Stations.giveAuthorisation(station, 1, 5, 0, Stations.ALWAYS);
        station.insert(1);
        station.remove();
        Check.due("unlocked for 0 seconds", 0, station.count(3));
        station.configure(0, 1);
        station.configure(1, 0);
        station.insert(1);
        station.remove();
        station.door(true);
        Check.due("unlocked for a second", 1, station.count(3));
        Check.due("alarm while unlocked", 0, station.count(5));
        station.pass(1);
        Check.due("unlocked after a second", 0, station.count(3));
        Check.due("alarm without silence", 1, station.count(5));
    }

    private static void afterFingerIsTooEarly() {
        SecureEntry station = Stations.upForFinger(4);
        station.pass(2);
        Check.due("remove() in the state FINGER", 0, station.remove());
        Check.log(station, "after remove", 1, 0, -1, 2, 0, 5, 8, 2, 5);
        Check.counts(station, "after remove", 1, 0, 0, 0, 0, 0, 0, 3, 2, -1, -1);
    }

    private static void afterWaitDoesNothingMore() {
        SecureEntry station = Stations.up();
        station.insert(4);
        Check.due("remove() in the state WAIT", 4, station.remove());
        Check.counts(station, "after remove", 1, 0, 0, 0, 0, 0, 0, 3, 0, -1, -1);
        Check.due("insert of it again", 3, station.insert(4));
    }

    private static void refuses() {
        SecureEntry down = Stations.enrolled();
        Check.refused(down, Check.STATE, "remove() while DOWN", down::remove);
        SecureEntry station = Stations.up();
        station.logon(2);
        Check.refused(station, Check.STATE, "remove() of none", station::remove);
        station.insert(1);
        station.remove();
        Check.refused(station, Check.STATE, "remove() twice", station::remove);
    }
}
