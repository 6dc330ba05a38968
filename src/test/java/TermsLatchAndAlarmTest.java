/** The sentences of the terms on the latch, the door and the alarm, second by second. */
public final class TermsLatchAndAlarmTest {
    public static void main(String[] args) {
        unlockedWhileBelowUntil();
        alarmNeedsTheDoorOpen();
        alarmNeedsTheLatchLocked();
        alarmNeedsTheAlarmTime();
        unlockingAnewSetsBoth();
        unlockingMayShorten();
        alarmTimeOfAnEarlierDoor();
        Check.end();
    }

    private static void seconds(SecureEntry station, int what, String name, int from, int to, int want) {
        for (int time = from; time <= to; time++) {
            Stations.passTo(station, time);
            Check.due(name + " at " + time, want, station.count(what));
        }
    }

    /** "THE LATCH is unlocked while the time is below UNTIL." */
    private static void unlockedWhileBelowUntil() {
        SecureEntry station = Stations.upWith(Stations.GUARD);
        seconds(station, 3, "unlocked before", 0, 7, 0);
        station.override();
        seconds(station, 3, "unlocked", 7, 11, 1);
        seconds(station, 3, "unlocked after", 12, 20, 0);
    }

    private static void alarmNeedsTheDoorOpen() {
        SecureEntry station = Stations.upWith(Stations.GUARD);
        station.override();
        seconds(station, 5, "alarm of a closed door", 0, 30, 0);
        SecureEntry closed = new SecureEntry();
        closed.door(true);
        closed.pass(10);
        Check.due("alarm of an open door", 1, closed.count(5));
        closed.door(false);
        Check.due("alarm when it is closed", 0, closed.count(5));
    }

    /** With SILENCE 0 the alarm time is UNTIL or before: only the latch keeps the alarm silent. */
    private static void alarmNeedsTheLatchLocked() {
        SecureEntry station = Stations.upWith(Stations.OFFICER);
        Stations.giveAuthorisation(station, 0, 3, 0, Stations.ALWAYS);
        station.configure(1, 0);
        station.insert(0);
        station.remove();
        station.door(true);
        seconds(station, 5, "alarm while unlocked", 0, 4, 0);
        seconds(station, 5, "alarm when locked", 5, 8, 1);
        station.door(false);
        station.insert(0);
        station.remove();
        station.door(true);
        seconds(station, 5, "alarm while unlocked again", 8, 12, 0);
        seconds(station, 5, "alarm when locked again", 13, 14, 1);
    }

    /** "and the time is at least the ALARM TIME". */
    private static void alarmNeedsTheAlarmTime() {
        SecureEntry station = Stations.upWith(Stations.GUARD);
        station.override();
        station.door(true);
        seconds(station, 5, "alarm", 0, 14, 0);
        seconds(station, 5, "alarm", 15, 20, 1);
        Check.due("entries of a door opened rightly", 3, station.count(7));
    }

    /** "UNLOCKING sets UNTIL to the time plus LATCH, and the alarm time to UNTIL plus SILENCE." */
    private static void unlockingAnewSetsBoth() {
        SecureEntry station = Stations.upWith(Stations.GUARD);
        station.override();
        station.door(true);
        station.pass(4);
        Check.due("override() at 4", 9, station.override());
        seconds(station, 3, "unlocked", 4, 8, 1);
        seconds(station, 3, "unlocked", 9, 9, 0);
        seconds(station, 5, "alarm", 9, 18, 0);
        seconds(station, 5, "alarm", 19, 20, 1);
    }

    /** UNTIL is set, not only put off: a lower LATCH brings it nearer. */
    private static void unlockingMayShorten() {
        SecureEntry station = Stations.upWith(Stations.OFFICER);
        Stations.giveAuthorisation(station, 0, 3, 0, Stations.ALWAYS);
        station.configure(0, 1000);
        station.insert(0);
        station.remove();
        station.pass(1);
        station.configure(0, 0);
        station.insert(0);
        Check.due("unlocked for long", 1, station.count(3));
        station.remove();
        Check.due("unlocked for 0 seconds", 0, station.count(3));
        station.door(true);
        seconds(station, 5, "alarm", 1, 10, 0);
        seconds(station, 5, "alarm", 11, 12, 1);
    }

    /** The alarm time of a forced door is overtaken by the next unlocking, and the other way round. */
    private static void alarmTimeOfAnEarlierDoor() {
        SecureEntry station = Stations.upWith(Stations.GUARD);
        station.door(true);
        station.pass(3);
        station.override();
        seconds(station, 5, "alarm", 3, 17, 0);
        seconds(station, 5, "alarm", 18, 18, 1);
        SecureEntry forced = Stations.upWith(Stations.GUARD);
        forced.override();
        forced.pass(8);
        forced.door(true);
        seconds(forced, 5, "alarm", 8, 17, 0);
        seconds(forced, 5, "alarm", 18, 18, 1);
    }
}
