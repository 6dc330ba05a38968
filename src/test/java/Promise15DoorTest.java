public final class Promise15DoorTest {
    public static void main(String[] args) {
        opensAndCloses();
        forcedWhileUp();
        openedWhileUnlocked();
        openedAtTheEdgeOfTheLatch();
        configuredSilence();
        Check.end();
    }

    private static void opensAndCloses() {
        SecureEntry station = new SecureEntry();
        Check.due("door(false) of a closed one", 0, station.door(false));
        station.pass(4);
        Check.due("door(true)", 1, station.door(true));
        Check.due("count(4)", 1, station.count(4));
        station.pass(5);
        Check.due("door(true) of an open one", 0, station.door(true));
        Check.log(station, "after opening", 9, 4, -1);
        Check.due("alarm at 9", 0, station.count(5));
        station.pass(4);
        Check.due("alarm at 13", 0, station.count(5));
        station.pass(1);
        Check.due("alarm at 14", 1, station.count(5));
        Check.due("door(false)", 1, station.door(false));
        Check.due("count(4)", 0, station.count(4));
        Check.due("alarm of a closed door", 0, station.count(5));
        Check.log(station, "after closing", 9, 4, -1);
        Check.due("door(true) anew", 1, station.door(true));
        Check.due("alarm after a new opening", 0, station.count(5));
        Check.log(station, "after a new opening", 9, 4, -1, 9, 14, -1);
    }

    private static void forcedWhileUp() {
        SecureEntry station = Stations.up();
        Stations.giveGood(station, 0, 5, 4);
        station.insert(0);
        station.door(true);
        Check.log(station, "after forcing", 1, 0, -1, 2, 0, 5, 9, 0, -1);
        Check.due("the user state", 1, station.count(1));
    }

    private static void openedWhileUnlocked() {
        SecureEntry station = Stations.upWith(Stations.GUARD);
        station.override();
        station.pass(2);
        Check.due("door(true)", 1, station.door(true));
        Check.due("entries", 3, station.count(7));
        station.pass(12);
        Check.due("alarm at 14", 0, station.count(5));
        station.pass(1);
        Check.due("alarm at 15", 1, station.count(5));
    }

    private static void openedAtTheEdgeOfTheLatch() {
        SecureEntry before = Stations.upWith(Stations.GUARD);
        before.override();
        before.pass(4);
        before.door(true);
        Check.due("entries, opened at 4", 3, before.count(7));
        SecureEntry after = Stations.upWith(Stations.GUARD);
        after.override();
        after.pass(5);
        after.door(true);
        Check.due("entries, opened at 5", 4, after.count(7));
        Check.due("the kind", 9, after.entry(3, 0));
        after.pass(9);
        Check.due("alarm at 14", 0, after.count(5));
        after.pass(1);
        Check.due("alarm at 15", 1, after.count(5));
    }

    private static void configuredSilence() {
        SecureEntry station = Stations.upWith(Stations.OFFICER);
        station.configure(1, 0);
        station.door(true);
        Check.due("alarm without silence", 1, station.count(5));
        station.door(false);
        station.configure(1, 3);
        station.door(true);
        station.pass(2);
        Check.due("alarm after 2 of 3 seconds", 0, station.count(5));
        station.pass(1);
        Check.due("alarm after 3 of 3 seconds", 1, station.count(5));
    }
}
