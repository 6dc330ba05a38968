public final class Promise17EntryTest {
    public static void main(String[] args) {
        kindTimeAndHolder();
        everyIndexOfEveryLength();
        thereIsNone();
        anotherWhat();
        refusesInOrder();
        isForEveryState();
        Check.end();
    }

    /** "kind (0), time (1), holder (2)". */
    private static void kindTimeAndHolder() {
        SecureEntry station = Stations.upForFinger(4);
        station.pass(2);
        station.remove();
        Check.due("entry(2, 0)", 8, station.entry(2, 0));
        Check.due("entry(2, 1)", 2, station.entry(2, 1));
        Check.due("entry(2, 2)", 5, station.entry(2, 2));
        Check.due("entry(0, 0)", 1, station.entry(0, 0));
        Check.due("entry(0, 1)", 0, station.entry(0, 1));
        Check.due("entry(0, 2)", -1, station.entry(0, 2));
    }

    /** Each opening is an entry of its own time: the first at 0, the next at 1, and so on. */
    private static SecureEntry forcedOften(int times) {
        SecureEntry station = new SecureEntry();
        for (int turn = 0; turn < times; turn++) {
            station.door(true);
            station.door(false);
            station.pass(1);
        }
        return station;
    }

    /** "at the index (from 0, the oldest one)". */
    private static void everyIndexOfEveryLength() {
        for (int times = 1; times <= 16; times++) {
            SecureEntry station = forcedOften(times);
            for (int index = 0; index < times; index++) {
                Check.due("time at " + index + " of " + times, index, station.entry(index, 1));
            }
        }
    }

    /** "NoSuchElementException: there is none." */
    private static void thereIsNone() {
        for (int times = 0; times <= 16; times++) {
            int entries = times;
            Refusal.outside(0, entries - 1, Check.NO_ELEMENT, "entry of " + entries,
                    () -> forcedOften(entries), (station, index) -> station.entry(index, 0));
        }
        Refusal.outside(0, 12, Check.NO_ELEMENT, "entry after a 17th", () -> forcedOften(17),
                (station, index) -> station.entry(index, 1));
        Refusal.due(Check.NO_ELEMENT, "entry(15, 2) after a 17th", () -> forcedOften(17),
                station -> station.entry(15, 2));
    }

    /** "IllegalArgumentException: another what." */
    private static void anotherWhat() {
        for (int each = 0; each < 16; each += 15) {
            int index = each;
            Refusal.outside(0, 2, Check.ARGUMENT, "entry of what at " + index, () -> forcedOften(16),
                    (station, what) -> station.entry(index, what));
        }
    }

    private static void refusesInOrder() {
        Refusal.outside(0, 2, Check.NO_ELEMENT, "entry(0, what) of an empty log", SecureEntry::new,
                (station, what) -> station.entry(0, what));
        Refusal.outside(0, 2, Check.NO_ELEMENT, "entry(-1, what)", () -> forcedOften(3),
                (station, what) -> station.entry(-1, what));
        Refusal.outside(0, 2, Check.NO_ELEMENT, "entry(3, what)", () -> forcedOften(3),
                (station, what) -> station.entry(3, what));
        Refusal.outside(0, 2, Check.NO_ELEMENT, "entry(16, what)", () -> forcedOften(16),
                (station, what) -> station.entry(16, what));
    }

    private static void isForEveryState() {
        Check.due("entry while DOWN", 9, forcedOften(1).entry(0, 0));
        Check.due("entry while UP", 1, Stations.up().entry(0, 0));
        Check.due("entry after shutdown", 15, Stations.afterShutdown().entry(2, 0));
    }
}
