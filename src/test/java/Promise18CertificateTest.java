public final class Promise18CertificateTest {
    public static void main(String[] args) {
        tellsWhatWasGiven();
        tellsEveryPlaceOfItsOwn();
        validFromFromToTo();
        validAtTheEndsOfTime();
        validByItsSignature();
        validByItsIssuer();
        authorisationsByTheStationAlone();
        validByItsValue();
        validityFollowsEnrolment();
        noTokenOfThatNumber();
        kindOutOfRange();
        anotherWhat();
        noneOfTheKind();
        refusesInOrder();
        isForEveryState();
        Check.end();
    }

    /** "issuer (0), holder (1), value (2), from (3), to (4), signature (5)". */
    private static void tellsWhatWasGiven() {
        SecureEntry station = new SecureEntry();
        station.certify(5, 2, 3, 98, 65535, 100000, 99999, 9972);
        Check.certificate(station, 5, 2, 3, 98, 65535, 100000, 99999, 9972, 0);
        station.certify(0, 0, 0, 0, 0, 0, 0, 0);
        Check.certificate(station, 0, 0, 0, 0, 0, 0, 0, 0, 0);
    }

    private static void tellsEveryPlaceOfItsOwn() {
        SecureEntry station = new SecureEntry();
        for (int place = 0; place < 24; place++) {
            station.certify(place / 4, place % 4, place % 7, place, place + 50, place + 60, place + 70, place + 80);
        }
        for (int place = 0; place < 24; place++) {
            Check.certificate(station, place / 4, place % 4,
                    place % 7, place, place + 50, place + 60, place + 70, place + 80, 0);
        }
    }

    /** "the time is from FROM to TO", for each kind. */
    private static void validFromFromToTo() {
        for (int kind = 0; kind < 4; kind++) {
            SecureEntry station = Stations.enrolled();
            int issuer = kind == 3 ? 6 : 0;
            Stations.certifyFrom(station, 0, kind, issuer, 1, 2, 3, 5);
            Stations.certifyFrom(station, 1, kind, issuer, 1, 2, 5, 3);
            Stations.certifyFrom(station, 2, kind, issuer, 1, 2, 4, 4);
            int[] due = {0, 0, 0, 1, 1, 1, 0};
            for (int time = 0; time < due.length; time++) {
                Check.due("valid at " + time + ", kind " + kind, due[time], station.certificate(0, kind, 6));
                Check.due("FROM above TO, valid at " + time, 0, station.certificate(1, kind, 6));
                int once = time == 4 ? 1 : 0;
                Check.due("FROM is TO, valid at " + time, once, station.certificate(2, kind, 6));
                station.pass(1);
            }
        }
    }

    private static void validAtTheEndsOfTime() {
        SecureEntry station = Stations.enrolled();
        Stations.certifyFrom(station, 0, 0, 0, 1, 2, 0, 0);
        Stations.certifyFrom(station, 1, 0, 0, 1, 2, 100000, 100000);
        Stations.certifyFrom(station, 2, 0, 0, 1, 2, 0, 100000);
        Stations.certifyFrom(station, 3, 0, 0, 1, 2, 0, 99999);
        int[] times = {0, 1, 99999, 100000};
        int[][] due = {{1, 0, 1, 1}, {0, 0, 1, 1}, {0, 0, 1, 1}, {0, 1, 1, 0}};
        for (int turn = 0; turn < times.length; turn++) {
            Stations.passTo(station, times[turn]);
            for (int token = 0; token < 4; token++) {
                Check.due("valid at " + times[turn] + ", token " + token, due[turn][token],
                        station.certificate(token, 0, 6));
            }
        }
    }

    private static int validity(SecureEntry station, int kind, int issuer, int value, int signature) {
        station.certify(0, kind, issuer, 5, value, 0, 100, signature);
        return station.certificate(0, kind, 6);
    }

    private static int rightlySigned(SecureEntry station, int kind, int issuer, int value) {
        return validity(station, kind, issuer, value, station.signature(kind, issuer, 5, value, 0, 100));
    }

    /** "its signature is right". */
    private static void validByItsSignature() {
        for (int kind = 0; kind < 4; kind++) {
            SecureEntry station = Stations.enrolled();
            int issuer = kind == 3 ? 6 : 0;
            int right = station.signature(kind, issuer, 5, 1, 0, 100);
            Check.due("right, kind " + kind, 1, validity(station, kind, issuer, 1, right));
            Check.due("one more, kind " + kind, 0, validity(station, kind, issuer, 1, (right + 1) % 9973));
            Check.due("one less, kind " + kind, 0, validity(station, kind, issuer, 1, (right + 9972) % 9973));
            Check.due("0, kind " + kind, 0, validity(station, kind, issuer, 1, 0));
            Check.due("9972, kind " + kind, 0, validity(station, kind, issuer, 1, 9972));
            int other = station.signature((kind + 1) % 4, issuer, 5, 1, 0, 100);
            Check.due("another kind's, kind " + kind, 0, validity(station, kind, issuer, 1, other));
        }
    }

    /** "its issuer is enrolled, or the station". */
    private static void validByItsIssuer() {
        SecureEntry station = Stations.enrolled();
        for (int kind = 0; kind < 3; kind++) {
            Check.due("by the station, kind " + kind, 1, rightlySigned(station, kind, 6, 1));
            Check.due("by issuer 0, kind " + kind, 1, rightlySigned(station, kind, 0, 1));
            Check.due("by issuer 1, kind " + kind, 0, rightlySigned(station, kind, 1, 1));
            Check.due("by issuer 5, kind " + kind, 0, rightlySigned(station, kind, 5, 1));
        }
        Check.due("by the station, none enrolled", 1, rightlySigned(new SecureEntry(), 0, 6, 1));
    }

    /** "and, for an authorisation, its issuer is the station". */
    private static void authorisationsByTheStationAlone() {
        SecureEntry station = new SecureEntry();
        for (int issuer = 0; issuer < 6; issuer++) {
            station.enrol(issuer, Stations.STATION_KEY);
            Check.due("by " + issuer + " with the station's key", 0, rightlySigned(station, 3, issuer, 1));
        }
        Check.due("by the station", 1, rightlySigned(station, 3, 6, 1));
    }

    /** "(one with a value above 15 is not valid)", of a privilege and an authorisation alone. */
    private static void validByItsValue() {
        SecureEntry station = Stations.enrolled();
        int[] values = {0, 15, 16, 65535};
        for (int kind = 0; kind < 4; kind++) {
            for (int value : values) {
                int due = kind % 2 == 1 && value > 15 ? 0 : 1;
                Check.due("value " + value + ", kind " + kind, due, rightlySigned(station, kind, 6, value));
            }
        }
        Check.due("privilege 16 by issuer 0", 0, rightlySigned(station, 1, 0, 16));
    }

    private static void validityFollowsEnrolment() {
        SecureEntry station = Stations.enrolled();
        Check.due("enrolled", 1, rightlySigned(station, 0, 0, 1));
        station.enrol(0, 78);
        Check.due("with another key", 0, station.certificate(0, 0, 6));
        station.enrol(0, 0);
        Check.due("struck off", 0, station.certificate(0, 0, 6));
        station.enrol(0, 77);
        Check.due("enrolled again", 1, station.certificate(0, 0, 6));
    }

    private static SecureEntry withOneId() {
        SecureEntry station = new SecureEntry();
        station.certify(0, 0, 0, 1, 2, 3, 4, 5);
        return station;
    }

    /** "NoSuchElementException: token not 0 .. 5." */
    private static void noTokenOfThatNumber() {
        Refusal.outside(0, 5, Check.NO_ELEMENT, "certificate of a token", Promise18CertificateTest::withOneId,
                (station, token) -> station.certificate(token, 0, 0));
    }

    /** "IllegalArgumentException: kind not 0 .. 3". */
    private static void kindOutOfRange() {
        Refusal.outside(0, 3, Check.ARGUMENT, "certificate of a kind", Promise18CertificateTest::withOneId,
                (station, kind) -> station.certificate(0, kind, 0));
        Refusal.outside(0, 3, Check.ARGUMENT, "certificate of a kind and what", Promise18CertificateTest::withOneId,
                (station, kind) -> station.certificate(0, kind, 7));
    }

    /** "or another what". */
    private static void anotherWhat() {
        Refusal.outside(0, 6, Check.ARGUMENT, "certificate of what", Promise18CertificateTest::withOneId,
                (station, what) -> station.certificate(0, 0, what));
    }

    /** "NoSuchElementException: it has none of the kind." */
    private static void noneOfTheKind() {
        for (int each = 0; each <= 6; each++) {
            int what = each;
            for (int kind : new int[] {1, 2, 3}) {
                Refusal.due(Check.NO_ELEMENT, "certificate(0, " + kind + ", " + what + ")",
                        Promise18CertificateTest::withOneId, station -> station.certificate(0, kind, what));
            }
            Refusal.due(Check.NO_ELEMENT, "certificate(5, 0, " + what + ")",
                    Promise18CertificateTest::withOneId, station -> station.certificate(5, 0, what));
        }
    }

    private static void refusesInOrder() {
        Refusal.outside(0, 5, Check.NO_ELEMENT, "certificate of a token and kind 4",
                Promise18CertificateTest::withOneId, (station, token) -> station.certificate(token, 4, 0));
        Refusal.outside(0, 5, Check.NO_ELEMENT, "certificate of a token and what 7",
                Promise18CertificateTest::withOneId, (station, token) -> station.certificate(token, 0, 7));
        Refusal.outside(0, 6, Check.ARGUMENT, "what of a certificate that is not there",
                Promise18CertificateTest::withOneId, (station, what) -> station.certificate(1, 3, what));
        Refusal.outside(0, 3, Check.ARGUMENT, "a kind of an empty token",
                Promise18CertificateTest::withOneId, (station, kind) -> station.certificate(5, kind, 6));
    }

    private static void isForEveryState() {
        Check.due("certificate while DOWN", 2, withOneId().certificate(0, 0, 2));
        Check.due("certificate in the outer reader", 5, Stations.upForFinger(4).certificate(0, 0, 1));
        Check.due("certificate in the inner reader", 50,
                Stations.upWith(Stations.GUARD).certificate(Stations.ADMINISTRATOR, 0, 1));
        Check.due("certificate after shutdown", 1,
                Stations.afterShutdown().certificate(Stations.ADMINISTRATOR, 3, 6));
    }
}
