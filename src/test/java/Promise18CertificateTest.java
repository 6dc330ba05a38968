public final class Promise18CertificateTest {
    public static void main(String[] args) {
        tellsWhatWasGiven();
        validInItsTime();
        validByItsSignature();
        validByItsIssuer();
        validByItsValue();
        validityFollowsEnrolment();
        refusesInOrder();
        Check.end();
    }

    private static void tellsWhatWasGiven() {
        SecureEntry station = new SecureEntry();
        station.certify(5, 2, 3, 98, 65535, 100000, 99999, 9972);
        int[] want = {3, 98, 65535, 100000, 99999, 9972, 0};
        for (int what = 0; what < want.length; what++) {
            Check.due("certificate(5, 2, " + what + ")", want[what], station.certificate(5, 2, what));
        }
    }

    private static void validInItsTime() {
        SecureEntry station = Stations.enrolled();
        station.certify(0, 0, 0, 1, 2, 3, 5, station.signature(0, 0, 1, 2, 3, 5));
        station.certify(0, 1, 0, 1, 2, 5, 3, station.signature(1, 0, 1, 2, 5, 3));
        int[] want = {0, 0, 0, 1, 1, 1, 0};
        for (int time = 0; time < want.length; time++) {
            Check.due("valid at " + time, want[time], station.certificate(0, 0, 6));
            Check.due("from above to, valid at " + time, 0, station.certificate(0, 1, 6));
            station.pass(1);
        }
    }

    private static int validity(SecureEntry station, int kind, int issuer, int value, int signature) {
        station.certify(0, kind, issuer, 5, value, 0, 100, signature);
        return station.certificate(0, kind, 6);
    }

    private static int rightlySigned(SecureEntry station, int kind, int issuer, int value) {
        return validity(station, kind, issuer, value, station.signature(kind, issuer, 5, value, 0, 100));
    }

    private static void validByItsSignature() {
        SecureEntry station = Stations.enrolled();
        for (int kind = 0; kind < 4; kind++) {
            int issuer = kind == 3 ? 6 : 0;
            int right = station.signature(kind, issuer, 5, 1, 0, 100);
            Check.due("right, kind " + kind, 1, validity(station, kind, issuer, 1, right));
            Check.due("one more, kind " + kind, 0, validity(station, kind, issuer, 1, (right + 1) % 9973));
            Check.due("one less, kind " + kind, 0, validity(station, kind, issuer, 1, (right + 9972) % 9973));
        }
    }

    private static void validByItsIssuer() {
        SecureEntry station = Stations.enrolled();
        for (int kind = 0; kind < 4; kind++) {
            Check.due("by the station, kind " + kind, 1, rightlySigned(station, kind, 6, 1));
            Check.due("by issuer 0, kind " + kind, kind == 3 ? 0 : 1, rightlySigned(station, kind, 0, 1));
            Check.due("by issuer 1, kind " + kind, 0, rightlySigned(station, kind, 1, 1));
        }
    }

    private static void validByItsValue() {
        SecureEntry station = Stations.enrolled();
        for (int kind = 0; kind < 4; kind++) {
            boolean right = kind == 1 || kind == 3;
            Check.due("value 15, kind " + kind, 1, rightlySigned(station, kind, 6, 15));
            Check.due("value 16, kind " + kind, right ? 0 : 1, rightlySigned(station, kind, 6, 16));
            Check.due("value 65535, kind " + kind, right ? 0 : 1, rightlySigned(station, kind, 6, 65535));
        }
    }

    private static void validityFollowsEnrolment() {
        SecureEntry station = Stations.enrolled();
        Check.due("enrolled", 1, rightlySigned(station, 0, 0, 1));
        station.enrol(0, 78);
        Check.due("with another key", 0, station.certificate(0, 0, 6));
        station.enrol(0, 0);
        Check.due("struck off", 0, station.certificate(0, 0, 6));
        station.enrol(0, 77);
        Check.due("enrolled again", 1, station.certificate(0, 0, 6));
    }

    private static void refusesInOrder() {
        SecureEntry station = new SecureEntry();
        station.certify(0, 0, 0, 0, 0, 0, 0, 0);
        Check.refused(station, Check.NO_ELEMENT, "certificate(6, 4, 7)", () -> station.certificate(6, 4, 7));
        Check.refused(station, Check.NO_ELEMENT, "certificate(-1, 0, 0)", () -> station.certificate(-1, 0, 0));
        Check.refused(station, Check.ARGUMENT, "certificate(0, 4, 0)", () -> station.certificate(0, 4, 0));
        Check.refused(station, Check.ARGUMENT, "certificate(0, -1, 0)", () -> station.certificate(0, -1, 0));
        Check.refused(station, Check.ARGUMENT, "certificate(0, 0, 7)", () -> station.certificate(0, 0, 7));
        Check.refused(station, Check.ARGUMENT, "certificate(0, 0, -1)", () -> station.certificate(0, 0, -1));
        Check.refused(station, Check.ARGUMENT, "certificate(1, 0, 7)", () -> station.certificate(1, 0, 7));
        Check.refused(station, Check.NO_ELEMENT, "certificate(1, 0, 6)", () -> station.certificate(1, 0, 6));
        Check.refused(station, Check.NO_ELEMENT, "certificate(0, 1, 0)", () -> station.certificate(0, 1, 0));
    }
}
