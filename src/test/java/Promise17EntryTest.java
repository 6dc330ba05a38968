public final class Promise17EntryTest {
    public static void main(String[] args) {
        tellsKindTimeAndHolder();
        losesTheFourOldest();
        losesAgain();
        keepsKindAndHolderTogether();
        refusesInOrder();
        Check.end();
    }

    private static void tellsKindTimeAndHolder() {
        SecureEntry station = Stations.upForFinger(4);
        station.pass(2);
        station.remove();
        Check.log(station, "after remove", 1, 0, -1, 2, 0, 5, 8, 2, 5);
    }

    /** Each opening is an entry of its own time: the first at 0, the next at 1, and so on. */
    private static SecureEntry forcedOften(int times) {
        SecureEntry station = new SecureEntry();
        for (int turn = 0; turn < times; turn++) {
            station.door(true);
            station.door(false);
            station.pass(1);
        }
        return station;
    }

    private static void losesTheFourOldest() {
        SecureEntry full = forcedOften(16);
        Check.due("entries", 16, full.count(7));
        Check.due("log alarm", 0, full.count(6));
        Check.due("the oldest", 0, full.entry(0, 1));
        Check.due("the newest", 15, full.entry(15, 1));
        SecureEntry over = forcedOften(17);
        Check.due("entries after a 17th", 13, over.count(7));
        Check.due("log alarm after a 17th", 1, over.count(6));
        for (int index = 0; index < 13; index++) {
            Check.due("kind at " + index, 9, over.entry(index, 0));
            Check.due("time at " + index, index + 4, over.entry(index, 1));
            Check.due("holder at " + index, -1, over.entry(index, 2));
        }
        Check.refused(over, Check.NO_ELEMENT, "entry(13, 0)", () -> over.entry(13, 0));
    }

    private static void losesAgain() {
        SecureEntry station = forcedOften(21);
        Check.due("entries after the 21st", 13, station.count(7));
        Check.due("the oldest", 8, station.entry(0, 1));
        Check.due("the newest", 20, station.entry(12, 1));
    }

    private static void keepsKindAndHolderTogether() {
        SecureEntry station = Stations.upWith(Stations.GUARD);
        for (int turn = 0; turn < 5; turn++) {
            Stations.certifyRightly(station, 0, 0, 0, 60 + turn, 0, Stations.ALWAYS);
            station.insert(0);
            station.remove();
            station.pass(1);
            station.override();
        }
        Check.log(station, "after a 17th", 12, 1, 50, 2, 1, 61, 3, 1, 61, 12, 2, 50, 2, 2, 62,
                3, 2, 62, 12, 3, 50, 2, 3, 63, 3, 3, 63, 12, 4, 50, 2, 4, 64, 3, 4, 64, 12, 5, 50);
    }

    private static void refusesInOrder() {
        SecureEntry station = Stations.up();
        Check.refused(station, Check.NO_ELEMENT, "entry(-1, 0)", () -> station.entry(-1, 0));
        Check.refused(station, Check.NO_ELEMENT, "entry(1, 0)", () -> station.entry(1, 0));
        Check.refused(station, Check.NO_ELEMENT, "entry(1, 3)", () -> station.entry(1, 3));
        Check.refused(station, Check.NO_ELEMENT, "entry(16, 0)", () -> station.entry(16, 0));
        Check.refused(station, Check.NO_ELEMENT, "entry(most, 0)", () -> station.entry(Integer.MAX_VALUE, 0));
        Check.refused(station, Check.ARGUMENT, "entry(0, 3)", () -> station.entry(0, 3));
        Check.refused(station, Check.ARGUMENT, "entry(0, -1)", () -> station.entry(0, -1));
    }
}
