public final class Promise15DoorTest {
    public static void main(String[] args) {
        oneIfThatChangesSomething();
        openedWhileLocked();
        openedAgain();
        openedWhileUnlocked();
        openedAtUntil();
        openAlready();
        closing();
        isForEveryState();
        configuredSilence();
        atTheLastSecond();
        Check.end();
    }

    /** "1 if that changes something, else 0". */
    private static void oneIfThatChangesSomething() {
        SecureEntry station = new SecureEntry();
        Check.due("door(false) of a closed one", 0, station.door(false));
        Check.due("door(true) of a closed one", 1, station.door(true));
        Check.due("count(4)", 1, station.count(4));
        Check.due("door(true) of an open one", 0, station.door(true));
        Check.due("count(4)", 1, station.count(4));
        Check.due("door(false) of an open one", 1, station.door(false));
        Check.due("count(4)", 0, station.count(4));
        Check.due("door(false) again", 0, station.door(false));
    }

    /** "entry 9, and the alarm time is the time plus SILENCE". */
    private static void openedWhileLocked() {
        SecureEntry station = new SecureEntry();
        station.pass(4);
        station.door(true);
        Check.log(station, "after opening", 9, 4, -1);
        Check.due("alarm at 4", 0, station.count(5));
        station.pass(9);
        Check.due("alarm at 13", 0, station.count(5));
        station.pass(1);
        Check.due("alarm at 14", 1, station.count(5));
        station.pass(1000);
        Check.due("alarm at 1014", 1, station.count(5));
    }

    private static void openedAgain() {
        SecureEntry station = new SecureEntry();
        station.door(true);
        station.pass(14);
        station.door(false);
        Check.due("alarm of a closed door", 0, station.count(5));
        station.door(true);
        Check.log(station, "after a new opening", 9, 0, -1, 9, 14, -1);
        Check.due("alarm after a new opening", 0, station.count(5));
        station.pass(9);
        Check.due("alarm at 23", 0, station.count(5));
        station.pass(1);
        Check.due("alarm at 24", 1, station.count(5));
    }

    private static SecureEntry unlocked() {
        SecureEntry station = Stations.upWith(Stations.GUARD);
        station.override();
        return station;
    }

    /** No entry, and the alarm time stays the one of the unlocking. */
    private static void openedWhileUnlocked() {
        SecureEntry station = unlocked();
        station.pass(2);
        Check.due("door(true)", 1, station.door(true));
        Check.due("entries", 3, station.count(7));
        station.pass(12);
        Check.due("alarm at 14", 0, station.count(5));
        station.pass(1);
        Check.due("alarm at 15", 1, station.count(5));
    }

    /** "THE LATCH is unlocked while the time is below UNTIL." */
    private static void openedAtUntil() {
        SecureEntry before = unlocked();
        before.pass(4);
        before.door(true);
        Check.due("entries, opened at 4", 3, before.count(7));
        SecureEntry at = unlocked();
        at.pass(5);
        at.door(true);
        Check.log(at, "opened at 5", 1, 0, -1, 10, 0, 50, 12, 0, 50, 9, 5, -1);
        SecureEntry behind = unlocked();
        behind.pass(6);
        behind.door(true);
        behind.pass(9);
        Check.due("alarm at 15, opened at 6", 0, behind.count(5));
        behind.pass(1);
        Check.due("alarm at 16, opened at 6", 1, behind.count(5));
    }

    /** Opening an open door neither writes an entry nor moves the alarm time. */
    private static void openAlready() {
        SecureEntry station = new SecureEntry();
        station.door(true);
        station.pass(9);
        Check.due("door(true) of an open one", 0, station.door(true));
        Check.log(station, "after that", 9, 0, -1);
        station.pass(1);
        Check.due("alarm at 10", 1, station.count(5));
        SecureEntry unlocked = unlocked();
        unlocked.door(true);
        unlocked.pass(5);
        Check.due("door(true) of an open one, the latch locked again", 0, unlocked.door(true));
        Check.due("entries", 3, unlocked.count(7));
        unlocked.pass(9);
        Check.due("alarm at 14", 0, unlocked.count(5));
        unlocked.pass(1);
        Check.due("alarm at 15", 1, unlocked.count(5));
    }

    /** Closing writes no entry, and leaves the latch and its alarm time as they are. */
    private static void closing() {
        SecureEntry station = unlocked();
        station.door(true);
        station.pass(1);
        station.door(false);
        Check.due("entries", 3, station.count(7));
        Check.due("unlocked", 1, station.count(3));
        station.pass(3);
        station.door(true);
        station.pass(10);
        Check.due("alarm at 14", 0, station.count(5));
        station.pass(1);
        Check.due("alarm at 15", 1, station.count(5));
    }

    private static void isForEveryState() {
        SecureEntry finger = Stations.upForFinger(4);
        finger.door(true);
        Check.log(finger, "after opening in the state FINGER", 1, 0, -1, 2, 0, 5, 9, 0, -1);
        Check.due("the user state", 1, finger.count(1));
        SecureEntry down = Stations.afterShutdown();
        Check.due("door(true) after shutdown", 1, down.door(true));
        Check.newest(down, "after shutdown", 15, 0, 50, 9, 0, -1);
        SecureEntry administrator = Stations.upWith(Stations.GUARD);
        administrator.door(true);
        Check.newest(administrator, "beside an administrator", 9, 0, -1);
    }

    private static void configuredSilence() {
        int[] silences = {0, 1, 1000};
        for (int silence : silences) {
            SecureEntry station = Stations.upWith(Stations.OFFICER);
            station.configure(1, silence);
            station.door(true);
            Check.due("alarm at once, silence " + silence, silence == 0 ? 1 : 0, station.count(5));
            Stations.passTo(station, silence - 1);
            Check.due("alarm before " + silence, silence == 0 ? 1 : 0, station.count(5));
            Stations.passTo(station, silence);
            Check.due("alarm at " + silence, 1, station.count(5));
        }
    }

    private static void atTheLastSecond() {
        SecureEntry late = new SecureEntry();
        Stations.passTo(late, 99990);
        late.door(true);
        Stations.passTo(late, 99999);
        Check.due("alarm at 99999", 0, late.count(5));
        late.pass(1);
        Check.due("alarm at 100000", 1, late.count(5));
        SecureEntry last = new SecureEntry();
        Stations.passTo(last, 100000);
        Check.due("door(true) at 100000", 1, last.door(true));
        Check.log(last, "at 100000", 9, 100000, -1);
        Check.due("alarm at once", 0, last.count(5));
    }
}
