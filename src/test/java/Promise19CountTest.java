public final class Promise19CountTest {
    public static void main(String[] args) {
        everyNumberTogether();
        alarmNeedsAllThree();
        logAlarmStays();
        refuses();
        Check.end();
    }

    private static void everyNumberTogether() {
        SecureEntry station = Stations.upWith(Stations.GUARD);
        Stations.giveGood(station, 2, 9, 4);
        station.pass(6);
        station.insert(2);
        station.override();
        station.door(true);
        Check.counts(station, "while unlocked", 1, 1, 1, 1, 1, 0, 0, 4, 6, 2, 5);
        station.pass(15);
        Check.counts(station, "while the alarm sounds", 1, 1, 1, 0, 1, 1, 0, 4, 21, 2, 5);
    }

    private static void alarmNeedsAllThree() {
        SecureEntry station = Stations.upWith(Stations.GUARD);
        station.door(true);
        station.pass(10);
        Check.due("open, locked and late", 1, station.count(5));
        station.door(false);
        Check.due("closed", 0, station.count(5));
        station.override();
        station.door(true);
        Check.due("unlocked", 0, station.count(5));
        station.pass(5);
        Check.due("locked", 0, station.count(3));
        Check.due("early", 0, station.count(5));
        station.pass(10);
        Check.due("late", 1, station.count(5));
    }

    private static void logAlarmStays() {
        SecureEntry station = Stations.upWith(Stations.OFFICER);
        for (int turn = 0; turn < 8; turn++) {
            station.insert(0);
            station.remove();
        }
        Check.due("log alarm", 1, station.count(6));
        station.shutdown();
        Check.due("log alarm after shutdown", 1, station.count(6));
        station.start();
        Check.due("log alarm after start", 1, station.count(6));
    }

    private static void refuses() {
        SecureEntry station = Stations.up();
        Check.refused(station, Check.ARGUMENT, "count(11)", () -> station.count(11));
        Check.refused(station, Check.ARGUMENT, "count(-1)", () -> station.count(-1));
        Check.refused(station, Check.ARGUMENT, "count(least)", () -> station.count(Integer.MIN_VALUE));
    }
}
