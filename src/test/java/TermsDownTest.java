import java.util.function.Supplier;
import java.util.function.ToIntFunction;

/** "Calls that are for a station that is UP throw IllegalStateException first if it is DOWN." */
public final class TermsDownTest {
    private static final int[] NUMBERS = {Integer.MIN_VALUE, -1, 0, 5, 6, 65536, Integer.MAX_VALUE};

    public static void main(String[] args) {
        refusedIn("a new object", SecureEntry::new);
        refusedIn("a station with issuers", Stations::enrolled);
        refusedIn("a station after shutdown", Stations::afterShutdown);
        refusedIn("an open and full station", TermsDownTest::openAndFull);
        refusedIn("a station at 100000", TermsDownTest::atTheLastSecond);
        theOtherCallsAreForEveryState();
        Check.end();
    }

    private static SecureEntry openAndFull() {
        SecureEntry station = Stations.enrolled();
        Stations.giveGood(station, 0, 5, 4);
        Stations.giveAuthorisation(station, 5, 50, 3, Stations.ALWAYS);
        Stations.fillLog(station, 15);
        station.door(true);
        return station;
    }

    private static SecureEntry atTheLastSecond() {
        SecureEntry station = Stations.enrolled();
        Stations.passTo(station, 100000);
        return station;
    }

    private static void refusedIn(String name, Supplier<SecureEntry> maker) {
        for (int number : NUMBERS) {
            refused("insert(" + number + ") in " + name, maker, station -> station.insert(number));
            refused("finger(" + number + ") in " + name, maker, station -> station.finger(number));
            refused("logon(" + number + ") in " + name, maker, station -> station.logon(number));
            refused("configure(" + number + ", 0) in " + name, maker, station -> station.configure(number, 0));
            refused("configure(0, " + number + ") in " + name, maker, station -> station.configure(0, number));
        }
        refused("remove() in " + name, maker, SecureEntry::remove);
        refused("logoff() in " + name, maker, SecureEntry::logoff);
        refused("override() in " + name, maker, SecureEntry::override);
        refused("archive() in " + name, maker, SecureEntry::archive);
        refused("shutdown() in " + name, maker, SecureEntry::shutdown);
    }

    private static void refused(String call, Supplier<SecureEntry> maker, ToIntFunction<SecureEntry> made) {
        Refusal.due(Check.STATE, call, maker, made);
    }

    private static void theOtherCallsAreForEveryState() {
        SecureEntry station = Stations.afterShutdown();
        Check.due("signature", 4711, station.signature(0, 6, 0, 0, 0, 0));
        Check.due("certify", 1, station.certify(0, 0, 0, 0, 0, 0, 0, 0));
        Check.due("certificate", 0, station.certificate(0, 0, 6));
        Check.due("enrol", 0, station.enrol(1, 2));
        Check.due("door", 1, station.door(true));
        Check.due("pass", 1000, station.pass(1000));
        Check.due("entry", 9, station.entry(3, 0));
        Check.due("count", 1000, station.count(8));
        Check.due("start", 2, station.start());
    }
}
