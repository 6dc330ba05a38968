public final class Promise08RemoveTest {
    public static void main(String[] args) {
        enterUnlocks();
        fingerIsTooEarly();
        waitDoesNothingMore();
        enterThatIsOutOfTimeDoesNotUnlock();
        answersTheToken();
        thenIdle();
        theInnerReaderStays();
        configuredUnlocking();
        noneIsThere();
        whileDown();
        Check.end();
    }

    /** "State ENTER: unlocking", without an entry of its own. */
    private static void enterUnlocks() {
        SecureEntry station = Stations.upForEntry();
        station.pass(2);
        Check.due("remove() in the state ENTER", 0, station.remove());
        Check.counts(station, "after remove", 1, 0, 0, 1, 0, 0, 0, 3, 2, -1, -1);
        station.door(true);
        int[] unlocked = {1, 1, 1, 1, 1, 0, 0};
        for (int second = 0; second < unlocked.length; second++) {
            Check.due("unlocked after " + second, unlocked[second], station.count(3));
            station.pass(1);
        }
        Stations.passTo(station, 16);
        Check.due("alarm at 16", 0, station.count(5));
        station.pass(1);
        Check.due("alarm at 17", 1, station.count(5));
        Check.due("entries", 3, station.count(7));
    }

    /** "FINGER: entry 8." */
    private static void fingerIsTooEarly() {
        SecureEntry station = Stations.upForFinger(4);
        station.pass(2);
        Check.due("remove() in the state FINGER", 0, station.remove());
        Check.log(station, "after remove", 1, 0, -1, 2, 0, 5, 8, 2, 5);
        Check.counts(station, "after remove", 1, 0, 0, 0, 0, 0, 0, 3, 2, -1, -1);
    }

    private static void waitDoesNothingMore() {
        SecureEntry station = Stations.upForRemoval();
        Check.due("remove() in the state WAIT", 0, station.remove());
        Check.counts(station, "after remove", 1, 0, 0, 0, 0, 0, 0, 3, 0, -1, -1);
        Check.log(station, "after remove", 1, 0, -1, 2, 0, -1, 3, 0, -1);
    }

    private static void enterThatIsOutOfTimeDoesNotUnlock() {
        SecureEntry early = Stations.upForEntry();
        early.pass(19);
        early.remove();
        Check.due("unlocked by remove() after 19 seconds", 1, early.count(3));
        SecureEntry late = Stations.upForEntry();
        late.pass(20);
        late.remove();
        Check.due("unlocked by remove() after 20 seconds", 0, late.count(3));
        SecureEntry finger = Stations.upForFinger(4);
        finger.pass(20);
        finger.remove();
        Check.newest(finger, "after remove", 6, 20, 5);
    }

    private static void answersTheToken() {
        for (int token = 0; token < 6; token++) {
            SecureEntry station = Stations.up();
            station.insert(token);
            Check.due("remove()", token, station.remove());
            Check.due("the outer reader", -1, station.count(9));
        }
    }

    /** "Then IDLE": a token may come in again, and no time runs out. */
    private static void thenIdle() {
        SecureEntry station = Stations.upForFinger(4);
        station.remove();
        station.pass(100);
        Check.due("user state", 0, station.count(1));
        Check.due("entries", 3, station.count(7));
        Check.due("insert of it again", 1, station.insert(0));
        station.remove();
        Check.due("insert of another", 3, station.insert(1));
    }

    private static void theInnerReaderStays() {
        SecureEntry station = Stations.upWith(Stations.GUARD);
        station.insert(0);
        station.remove();
        Check.counts(station, "after remove", 1, 0, 1, 0, 0, 0, 0, 4, 0, -1, 5);
    }

    private static void configuredUnlocking() {
        int[] latches = {0, 1, 1000};
        for (int latch : latches) {
            SecureEntry station = Stations.upWith(Stations.OFFICER);
            station.configure(0, latch);
            Stations.giveAuthorisation(station, 1, 5, 0, Stations.ALWAYS);
            station.insert(1);
            station.remove();
            Check.due("unlocked for " + latch + " seconds", latch == 0 ? 0 : 1, station.count(3));
            Stations.passTo(station, latch - 1);
            Check.due("unlocked before the end of " + latch, latch == 0 ? 0 : 1, station.count(3));
            Stations.passTo(station, latch);
            Check.due("unlocked at the end of " + latch, 0, station.count(3));
        }
    }

    /** "IllegalStateException: none is there." */
    private static void noneIsThere() {
        Refusal.due(Check.STATE, "remove() of none", Stations::up, SecureEntry::remove);
        Refusal.due(Check.STATE, "remove() beside a filled inner reader", () -> Stations.upWith(Stations.GUARD),
                SecureEntry::remove);
        Refusal.due(Check.STATE, "remove() a second time", () -> {
            SecureEntry station = Stations.upForEntry();
            station.remove();
            return station;
        }, SecureEntry::remove);
    }

    private static void whileDown() {
        Refusal.due(Check.STATE, "remove() while DOWN", Stations::enrolled, SecureEntry::remove);
        Refusal.due(Check.STATE, "remove() after shutdown", () -> {
            SecureEntry station = Stations.upWith(Stations.OFFICER);
            station.insert(0);
            station.shutdown();
            return station;
        }, SecureEntry::remove);
    }
}
