public final class Promise07FingerTest {
    public static void main(String[] args) {
        matchAuthorises();
        roleAndLesserClearance();
        thresholdDecides();
        configuredThreshold();
        configuredClassAndPeriod();
        authorisationEndsWithTime();
        asksNotWhetherCertificatesAreStillValid();
        mismatchTurnsAway();
        takesTheLowestAndHighestSample();
        refusesInOrder();
        Check.end();
    }

    private static void matchAuthorises() {
        SecureEntry station = Stations.upForFinger(4);
        station.pass(3);
        Check.due("finger(300)", 2, station.finger(Stations.TEMPLATE));
        Check.counts(station, "after a match", 1, 2, 0, 0, 0, 0, 0, 4, 3, 0, -1);
        Check.log(station, "after a match", 1, 0, -1, 2, 0, 5, 4, 3, 5, 7, 3, 5);
        authorisation(station, 6, 5, 4, 3, 103, station.signature(3, 6, 5, 4, 3, 103), 1);
        station.remove();
        Check.due("insert of the authorised", 2, station.insert(0));
    }

    private static void authorisation(SecureEntry station, int... want) {
        for (int what = 0; what < want.length; what++) {
            Check.due("certificate(0, 3, " + what + ")", want[what], station.certificate(0, 3, what));
        }
    }

    private static void roleAndLesserClearance() {
        for (int privilege = 0; privilege < 16; privilege++) {
            SecureEntry station = Stations.upForFinger(privilege);
            station.finger(Stations.TEMPLATE);
            int due = Math.min(privilege / 4, 1) * 4 + privilege % 4;
            Check.due("authorisation by privilege " + privilege, due, station.certificate(0, 3, 2));
            Check.due("is it valid", 1, station.certificate(0, 3, 6));
        }
    }

    private static void thresholdDecides() {
        int[] differences = {0, 1, 0x8000, 3, 0x8001, 7, 0xffff, 0x4444};
        int[] states = {2, 2, 2, 2, 2, 3, 3, 3};
        for (int place = 0; place < differences.length; place++) {
            SecureEntry station = Stations.upForFinger(4);
            int sample = Stations.TEMPLATE ^ differences[place];
            Check.due("finger(" + sample + ")", states[place], station.finger(sample));
        }
    }

    private static void configuredThreshold() {
        Check.due("threshold 0 and no bit", 2, fingerAtThreshold(0, 0));
        Check.due("threshold 0 and a bit", 3, fingerAtThreshold(0, 0x0100));
        Check.due("threshold 15 and 16 bits", 3, fingerAtThreshold(15, 0xffff));
        Check.due("threshold 15 and 15 bits", 2, fingerAtThreshold(15, 0x7fff));
        Check.due("threshold 16 and 16 bits", 2, fingerAtThreshold(16, 0xffff));
    }

    private static int fingerAtThreshold(int threshold, int difference) {
        SecureEntry station = Stations.upWith(Stations.OFFICER);
        station.configure(4, threshold);
        Stations.giveGood(station, 0, 5, 4);
        station.insert(0);
        return station.finger(Stations.TEMPLATE ^ difference);
    }

    private static void configuredClassAndPeriod() {
        int[] values = {3, 7, 11, 11};
        for (int clearance = 0; clearance < 4; clearance++) {
            SecureEntry station = Stations.upWith(Stations.OFFICER);
            station.configure(5, clearance);
            station.configure(3, 0);
            Stations.giveGood(station, 0, 5, 11);
            station.pass(1);
            station.insert(0);
            station.finger(Stations.TEMPLATE);
            int value = values[clearance];
            authorisation(station, 6, 5, value, 1, 1, station.signature(3, 6, 5, value, 1, 1), 1);
            station.pass(1);
            Check.due("valid after a period of 0", 0, station.certificate(0, 3, 6));
        }
    }

    private static void authorisationEndsWithTime() {
        SecureEntry station = Stations.up();
        Stations.giveGood(station, 0, 5, 4);
        Stations.passTo(station, 99950);
        station.insert(0);
        station.finger(Stations.TEMPLATE);
        authorisation(station, 6, 5, 4, 99950, 100000, station.signature(3, 6, 5, 4, 99950, 100000), 1);
    }

    private static void asksNotWhetherCertificatesAreStillValid() {
        SecureEntry station = Stations.up();
        Stations.giveGood(station, 0, 5, 4);
        Stations.certifyRightly(station, 0, 2, 0, 5, Stations.TEMPLATE, 3);
        Stations.certifyRightly(station, 0, 3, 6, 5, 12, 0);
        station.pass(1);
        Check.due("insert with a lapsed authorisation", 1, station.insert(0));
        station.pass(5);
        Check.due("finger after the certificate has lapsed", 2, station.finger(Stations.TEMPLATE));
        Check.due("the authorisation is replaced", 4, station.certificate(0, 3, 2));
    }

    private static void mismatchTurnsAway() {
        SecureEntry station = Stations.upForFinger(4);
        station.pass(1);
        Check.due("finger(65535)", 3, station.finger(65535));
        Check.log(station, "after a mismatch", 1, 0, -1, 2, 0, 5, 5, 1, 5);
        Check.due("the reader", 0, station.count(9));
        Check.refused(station, Check.NO_ELEMENT, "authorisation after a mismatch", () -> station.certificate(0, 3, 0));
        Check.refused(station, Check.STATE, "finger in the state WAIT", () -> station.finger(Stations.TEMPLATE));
    }

    private static void takesTheLowestAndHighestSample() {
        Check.due("finger(0)", 3, Stations.upForFinger(4).finger(0));
        Check.due("finger(65535)", 3, Stations.upForFinger(4).finger(65535));
    }

    private static void refusesInOrder() {
        SecureEntry down = Stations.enrolled();
        Check.refused(down, Check.STATE, "finger(-1) while DOWN", () -> down.finger(-1));
        SecureEntry idle = Stations.up();
        Check.refused(idle, Check.STATE, "finger(-1) while IDLE", () -> idle.finger(-1));
        SecureEntry station = Stations.upForFinger(4);
        Check.refused(station, Check.ARGUMENT, "finger(-1)", () -> station.finger(-1));
        Check.refused(station, Check.ARGUMENT, "finger(65536)", () -> station.finger(65536));
        station.finger(Stations.TEMPLATE);
        Check.refused(station, Check.STATE, "finger in the state ENTER", () -> station.finger(Stations.TEMPLATE));
    }
}
