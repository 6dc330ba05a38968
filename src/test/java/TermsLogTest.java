import java.util.function.Consumer;

/** The sentences of the terms on the log: 16 entries, a 17th, and every kind of entry as that. */
public final class TermsLogTest {
    public static void main(String[] args) {
        sixteenEntriesStay();
        forASeventeenthTheFourOldestGo();
        theLogFillsAgain();
        theLogAlarmStaysOn();
        entriesStayWhole();
        twoEntriesOfOneCall();
        everyKindAsTheSeventeenth();
        holdersAreThoseOfTheId();
        Check.end();
    }

    /** Each opening is an entry of its own time: the first at 0, the next at 1, and so on. */
    private static SecureEntry forcedOften(int times) {
        SecureEntry station = new SecureEntry();
        for (int turn = 0; turn < times; turn++) {
            station.door(true);
            station.door(false);
            station.pass(1);
        }
        return station;
    }

    private static void times(SecureEntry station, int oldest, int newest) {
        Check.due("entries up to " + newest, newest - oldest + 1, station.count(7));
        for (int time = oldest; time <= newest; time++) {
            int index = time - oldest;
            Check.due("kind at " + index + " up to " + newest, 9, station.entry(index, 0));
            Check.due("time at " + index + " up to " + newest, time, station.entry(index, 1));
            Check.due("holder at " + index + " up to " + newest, -1, station.entry(index, 2));
        }
    }

    /** "THE LOG holds 16 entries". */
    private static void sixteenEntriesStay() {
        for (int entries = 1; entries <= 16; entries++) {
            SecureEntry station = forcedOften(entries);
            times(station, 0, entries - 1);
            Check.due("log alarm of " + entries, 0, station.count(6));
        }
    }

    /** "for a 17th the 4 oldest go, and the LOG ALARM is on". */
    private static void forASeventeenthTheFourOldestGo() {
        SecureEntry station = forcedOften(17);
        times(station, 4, 16);
        Check.due("log alarm after a 17th", 1, station.count(6));
    }

    private static void theLogFillsAgain() {
        times(forcedOften(18), 4, 17);
        times(forcedOften(19), 4, 18);
        times(forcedOften(20), 4, 19);
        times(forcedOften(21), 8, 20);
        times(forcedOften(24), 8, 23);
        times(forcedOften(25), 12, 24);
        times(forcedOften(100), 84, 99);
        times(forcedOften(101), 88, 100);
    }

    private static void theLogAlarmStaysOn() {
        for (int entries = 17; entries <= 40; entries++) {
            Check.due("log alarm after " + entries, 1, forcedOften(entries).count(6));
        }
        SecureEntry station = Stations.upWith(Stations.OFFICER);
        Stations.fillLog(station, 16);
        station.insert(0);
        station.remove();
        station.shutdown();
        Check.due("log alarm after shutdown", 1, station.count(6));
        station.start();
        Check.due("log alarm after start", 1, station.count(6));
        station.pass(1000);
        Check.due("log alarm after a while", 1, station.count(6));
    }

    private static void entriesStayWhole() {
        SecureEntry station = Stations.upWith(Stations.GUARD);
        for (int turn = 0; turn < 5; turn++) {
            Stations.certifyRightly(station, 0, 0, 0, 60 + turn, 0, Stations.ALWAYS);
            station.insert(0);
            station.remove();
            station.pass(1);
            station.override();
        }
        Check.log(station, "after a 17th", 12, 1, 50, 2, 1, 61, 3, 1, 61, 12, 2, 50, 2, 2, 62,
                3, 2, 62, 12, 3, 50, 2, 3, 63, 3, 3, 63, 12, 4, 50, 2, 4, 64, 3, 4, 64, 12, 5, 50);
    }

    /** The first of two entries may fill the log, or be the 17th itself. */
    private static void twoEntriesOfOneCall() {
        int[] left = {16, 13, 14};
        for (int entries = 14; entries <= 16; entries++) {
            SecureEntry refused = Stations.up();
            Stations.fillLog(refused, entries);
            refused.insert(0);
            Check.due("entries after insert into " + entries, left[entries - 14], refused.count(7));
            Check.newest(refused, "after insert", 9, 0, -1, 2, 0, -1, 3, 0, -1);
            SecureEntry finger = Stations.upForFinger(4);
            Stations.fillLog(finger, entries);
            finger.finger(Stations.TEMPLATE);
            Check.due("entries after finger into " + entries, left[entries - 14], finger.count(7));
            Check.newest(finger, "after finger", 9, 0, -1, 4, 0, 5, 7, 0, 5);
            Check.due("log alarm after finger into " + entries, entries == 14 ? 0 : 1, finger.count(6));
        }
    }

    /** A call whose last entry is of the kind is made on a log that has just no room for that entry. */
    private static void seventeenth(int kind, int holder, int entriesOfTheCall, SecureEntry station,
            Consumer<SecureEntry> call) {
        Stations.fillLog(station, 17 - entriesOfTheCall);
        call.accept(station);
        Check.due("entries after a 17th of kind " + kind, 13, station.count(7));
        Check.due("log alarm after a 17th of kind " + kind, 1, station.count(6));
        Check.newest(station, "after a 17th of kind " + kind, kind, station.count(8), holder);
    }

    private static void everyKindAsTheSeventeenth() {
        seventeenth(1, -1, 1, Stations.enrolled(), SecureEntry::start);
        SecureEntry good = Stations.up();
        Stations.giveGood(good, 0, 5, 4);
        seventeenth(2, 5, 1, good, station -> station.insert(0));
        seventeenth(3, -1, 2, Stations.up(), station -> station.insert(0));
        seventeenth(5, 5, 1, Stations.upForFinger(4), station -> station.finger(65535));
        seventeenth(6, 5, 1, Stations.upForFinger(4), station -> station.pass(20));
        seventeenth(7, 5, 2, Stations.upForFinger(4), station -> station.finger(300));
        seventeenth(8, 5, 1, Stations.upForFinger(4), SecureEntry::remove);
        seventeenth(9, -1, 1, Stations.up(), station -> station.door(true));
        SecureEntry guard = Stations.up();
        Stations.giveAuthorisation(guard, 1, 7, 1, Stations.ALWAYS);
        seventeenth(10, 7, 1, guard, station -> station.logon(1));
        seventeenth(11, 50, 1, Stations.upWith(Stations.GUARD), SecureEntry::logoff);
        seventeenth(11, 50, 1, Stations.upWith(Stations.GUARD, 0), station -> station.pass(1));
        seventeenth(12, 50, 1, Stations.upWith(Stations.GUARD), SecureEntry::override);
        seventeenth(14, 50, 1, Stations.upWith(Stations.OFFICER), station -> station.configure(0, 1));
        seventeenth(15, 50, 1, Stations.upWith(Stations.OFFICER), SecureEntry::shutdown);
        seventeenth(16, -1, 1, Stations.up(), station -> station.logon(1));
    }

    /** "Holders are those of the ID certificate of the token that it is about (-1 without one)". */
    private static void holdersAreThoseOfTheId() {
        for (int holder : Edges.inside(0, 99)) {
            SecureEntry station = Stations.up();
            // neither valid nor the other certificates' holder: it is the ID's all the same
            station.certify(0, 0, 1, holder, 0, 9, 8, 0);
            station.certify(0, 3, 6, 50, 0, 0, 100, 0);
            station.insert(0);
            station.remove();
            station.logon(0);
            Check.log(station, "of holder " + holder, 1, 0, -1, 2, 0, holder, 3, 0, holder, 16, 0, holder);
        }
        SecureEntry station = Stations.up();
        Stations.certifyRightly(station, 0, 1, 0, 50, 0, Stations.ALWAYS);
        Stations.certifyRightly(station, 0, 2, 0, 50, 0, Stations.ALWAYS);
        Stations.certifyRightly(station, 0, 3, 6, 50, 0, Stations.ALWAYS);
        station.insert(0);
        station.remove();
        station.logon(0);
        Check.log(station, "without an ID", 1, 0, -1, 2, 0, -1, 3, 0, -1, 16, 0, -1);
    }
}
