public final class Promise07FingerTest {
    private static final int ENTER = 2;
    private static final int WAIT = 3;

    public static void main(String[] args) {
        authorisesAndLetsIn();
        atMostThreshold();
        everyBitCounts();
        samplesAndTemplatesAtTheirEdges();
        roleAndTheLesserClearance();
        fromTheTimeToThatPlusPeriod();
        oneHundredThousandAtMost();
        takesThePlaceOfTheAuthorisation();
        holderOfThePrivilege();
        certificatesAreNotJudgedAgain();
        noMatch();
        notInTheStateFinger();
        samplesOutOfRange();
        refusesInOrder();
        Check.end();
    }

    /** "entry 4, then ENTER and entry 7", after an authorisation that is rightly signed. */
    private static void authorisesAndLetsIn() {
        SecureEntry station = Stations.upForFinger(4);
        station.pass(3);
        Check.due("finger(300)", ENTER, station.finger(Stations.TEMPLATE));
        Check.counts(station, "after a match", 1, 2, 0, 0, 0, 0, 0, 4, 3, 0, -1);
        Check.log(station, "after a match", 1, 0, -1, 2, 0, 5, 4, 3, 5, 7, 3, 5);
        authorisation(station, 4, 3, 103);
        station.remove();
        Check.due("insert of the authorised", ENTER, station.insert(0));
    }

    private static void authorisation(SecureEntry station, int value, int from, int to) {
        int right = Stations.rightSignature(Stations.STATION_KEY, 3, 5, value, from, to);
        Check.certificate(station, 0, 3, 6, 5, value, from, to, right, 1);
    }

    /** "if sample and template differ in at most THRESHOLD of 16 bits". */
    private static void atMostThreshold() {
        for (int threshold = 0; threshold <= 16; threshold++) {
            for (int bits = 0; bits <= 16; bits++) {
                SecureEntry station = configured(4, threshold);
                int sample = Stations.TEMPLATE ^ (1 << bits) - 1;
                int due = bits <= threshold ? ENTER : WAIT;
                Check.due(bits + " bits with the threshold " + threshold, due, station.finger(sample));
            }
        }
        Check.due("2 bits at first", ENTER, Stations.upForFinger(4).finger(Stations.TEMPLATE ^ 3));
        Check.due("3 bits at first", WAIT, Stations.upForFinger(4).finger(Stations.TEMPLATE ^ 7));
    }

    /** With an officer who has set one number, and a good token in the outer reader. */
    private static SecureEntry configured(int which, int value) {
        SecureEntry station = Stations.upWith(Stations.OFFICER);
        station.configure(which, value);
        Stations.giveGood(station, 0, 5, 11);
        station.insert(0);
        return station;
    }

    private static void everyBitCounts() {
        for (int bit = 0; bit < 16; bit++) {
            int sample = Stations.TEMPLATE ^ 1 << bit;
            Check.due("bit " + bit + " with the threshold 0", WAIT, configured(4, 0).finger(sample));
            Check.due("bit " + bit + " with the threshold 1", ENTER, configured(4, 1).finger(sample));
        }
    }

    private static void samplesAndTemplatesAtTheirEdges() {
        int[] edges = {0, 65535};
        for (int template : edges) {
            for (int sample : edges) {
                SecureEntry station = Stations.up();
                Stations.giveGood(station, 0, 5, 4);
                Stations.certifyRightly(station, 0, 2, 0, 5, template, Stations.ALWAYS);
                station.insert(0);
                int due = sample == template ? ENTER : WAIT;
                Check.due("finger(" + sample + ") for " + template, due, station.finger(sample));
            }
        }
    }

    /** "role of the privilege, the lesser one of its clearance and CLASS". */
    private static void roleAndTheLesserClearance() {
        for (int highest = 0; highest < 4; highest++) {
            for (int privilege = 0; privilege < 16; privilege++) {
                SecureEntry station = Stations.upWith(Stations.OFFICER);
                station.configure(5, highest);
                Stations.giveGood(station, 0, 5, privilege);
                station.insert(0);
                station.finger(Stations.TEMPLATE);
                int clearance = privilege / 4 < highest ? privilege / 4 : highest;
                authorisation(station, clearance * 4 + privilege % 4, 0, 100);
            }
        }
        SecureEntry first = Stations.upForFinger(15);
        first.finger(Stations.TEMPLATE);
        Check.due("the authorisation with the first CLASS", 7, first.certificate(0, 3, 2));
    }

    /** "from the time to that plus PERIOD". */
    private static void fromTheTimeToThatPlusPeriod() {
        int[] periods = {0, 1, 1000};
        for (int period : periods) {
            SecureEntry station = configured(3, period);
            station.pass(1);
            station.finger(Stations.TEMPLATE);
            authorisation(station, 7, 1, 1 + period);
            Stations.passTo(station, 1 + period);
            Check.due("valid at TO, the period " + period, 1, station.certificate(0, 3, 6));
            station.pass(1);
            Check.due("valid behind TO, the period " + period, 0, station.certificate(0, 3, 6));
        }
    }

    /** "(100000 at most)". */
    private static void oneHundredThousandAtMost() {
        int[] times = {99899, 99900, 99901, 99999, 100000};
        int[] ends = {99999, 100000, 100000, 100000, 100000};
        for (int turn = 0; turn < times.length; turn++) {
            SecureEntry station = Stations.up();
            Stations.giveGood(station, 0, 5, 4);
            Stations.passTo(station, times[turn]);
            station.insert(0);
            Check.due("finger at " + times[turn], ENTER, station.finger(Stations.TEMPLATE));
            authorisation(station, 4, times[turn], ends[turn]);
        }
    }

    private static void takesThePlaceOfTheAuthorisation() {
        SecureEntry station = Stations.up();
        Stations.giveGood(station, 0, 5, 4);
        station.certify(0, 3, 2, 8, 65535, 7, 6, 1);
        station.insert(0);
        station.finger(Stations.TEMPLATE);
        authorisation(station, 4, 0, 100);
        station.remove();
        Check.due("certify in its place", 0, station.certify(0, 3, 0, 0, 0, 0, 0, 0));
    }

    private static void holderOfThePrivilege() {
        for (int holder : Edges.inside(0, 99)) {
            SecureEntry station = Stations.up();
            Stations.giveGood(station, 0, holder, 4);
            station.insert(0);
            station.finger(Stations.TEMPLATE);
            int right = Stations.rightSignature(Stations.STATION_KEY, 3, holder, 4, 0, 100);
            Check.certificate(station, 0, 3, 6, holder, 4, 0, 100, right, 1);
            Check.newest(station, "of holder " + holder, 4, 0, holder, 7, 0, holder);
        }
    }

    /** The document asks for the state FINGER alone, not for a token that is still good. */
    private static void certificatesAreNotJudgedAgain() {
        for (int kind = 0; kind < 3; kind++) {
            SecureEntry station = Stations.up();
            Stations.giveGood(station, 0, 5, 4);
            int value = kind == 1 ? 4 : Stations.TEMPLATE;
            Stations.certifyRightly(station, 0, kind, 0, 5, value, 3);
            station.insert(0);
            station.pass(5);
            Check.due("finger after kind " + kind + " has lapsed", ENTER, station.finger(Stations.TEMPLATE));
            authorisation(station, 4, 5, 105);
        }
    }

    /** "Else WAIT and entry 5", and no authorisation. */
    private static void noMatch() {
        SecureEntry station = Stations.upForFinger(4);
        station.pass(1);
        Check.due("finger(65535)", WAIT, station.finger(65535));
        Check.counts(station, "after a mismatch", 1, 3, 0, 0, 0, 0, 0, 3, 1, 0, -1);
        Check.log(station, "after a mismatch", 1, 0, -1, 2, 0, 5, 5, 1, 5);
        Refusal.due(Check.NO_ELEMENT, "certificate(0, 3, 0) after a mismatch", Promise07FingerTest::mismatched,
                after -> after.certificate(0, 3, 0));
        SecureEntry lapsed = Stations.up();
        Stations.giveGood(lapsed, 0, 5, 4);
        lapsed.certify(0, 3, 2, 8, 65535, 7, 6, 1);
        lapsed.insert(0);
        lapsed.finger(65535);
        Check.certificate(lapsed, 0, 3, 2, 8, 65535, 7, 6, 1, 0);
    }

    private static SecureEntry mismatched() {
        SecureEntry station = Stations.upForFinger(4);
        station.finger(65535);
        return station;
    }

    private static SecureEntry timedOut() {
        SecureEntry station = Stations.upForFinger(4);
        station.pass(20);
        return station;
    }

    private static SecureEntry removed() {
        SecureEntry station = Stations.upForFinger(4);
        station.remove();
        return station;
    }

    /** "IllegalStateException: not in the state FINGER." */
    private static void notInTheStateFinger() {
        Refusal.due(Check.STATE, "finger while DOWN", Stations::enrolled, station -> station.finger(300));
        Refusal.due(Check.STATE, "finger after shutdown", Stations::afterShutdown, station -> station.finger(300));
        Refusal.due(Check.STATE, "finger in the state IDLE", Stations::up, station -> station.finger(300));
        Refusal.due(Check.STATE, "finger in the state ENTER", Stations::upForEntry, station -> station.finger(300));
        Refusal.due(Check.STATE, "finger in the state WAIT", Stations::upForRemoval, station -> station.finger(300));
        Refusal.due(Check.STATE, "finger after a mismatch", Promise07FingerTest::mismatched,
                station -> station.finger(300));
        Refusal.due(Check.STATE, "finger after the time is out", Promise07FingerTest::timedOut,
                station -> station.finger(300));
        Refusal.due(Check.STATE, "finger after remove", Promise07FingerTest::removed,
                station -> station.finger(300));
    }

    /** "IllegalArgumentException: sample not 0 .. 65535." */
    private static void samplesOutOfRange() {
        Refusal.outside(0, 65535, Check.ARGUMENT, "finger", () -> Stations.upForFinger(4), SecureEntry::finger);
        Refusal.due(Check.ARGUMENT, "finger with a 17th bit", () -> Stations.upForFinger(4),
                station -> station.finger(65536 + Stations.TEMPLATE));
        Refusal.due(Check.ARGUMENT, "finger with a sign", () -> Stations.upForFinger(4),
                station -> station.finger(Integer.MIN_VALUE + Stations.TEMPLATE));
    }

    private static void refusesInOrder() {
        Refusal.outside(0, 65535, Check.STATE, "finger while DOWN", Stations::enrolled, SecureEntry::finger);
        Refusal.outside(0, 65535, Check.STATE, "finger in the state IDLE", Stations::up, SecureEntry::finger);
        Refusal.outside(0, 65535, Check.STATE, "finger in the state ENTER", Stations::upForEntry,
                SecureEntry::finger);
        Refusal.outside(0, 65535, Check.STATE, "finger in the state WAIT", Stations::upForRemoval,
                SecureEntry::finger);
    }
}
