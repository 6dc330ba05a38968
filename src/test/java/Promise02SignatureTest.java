public final class Promise02SignatureTest {
    private static final int[] HIGHEST = {3, 6, 99, 65535, 100000, 100000};
    private static final int[] MIDDLING = {1, 3, 50, 1000, 20, 3000};
    private static final int[] KEYS = {1, 2, 77, 5000, 9971, 9972, Stations.STATION_KEY};

    public static void main(String[] args) {
        signaturesReckonedByHand();
        everyNumberAtItsEdges();
        allNumbersAtTheirEdges();
        aRightSignatureMayBeZero();
        zeroForAnIssuerThatIsNotEnrolled();
        numbersOutOfRange();
        numbersOutOfRangeBeforeTheIssuer();
        theStateDoesNotMatter();
        Check.end();
    }

    private static SecureEntry withAllIssuers() {
        SecureEntry station = new SecureEntry();
        for (int issuer = 0; issuer < 6; issuer++) {
            station.enrol(issuer, KEYS[issuer]);
        }
        return station;
    }

    private static int signature(SecureEntry station, int[] of) {
        return station.signature(of[0], of[1], of[2], of[3], of[4], of[5]);
    }

    private static void rightFor(SecureEntry station, int[] of) {
        int want = Stations.rightSignature(KEYS[of[1]], of[0], of[2], of[3], of[4], of[5]);
        Check.due("signature" + java.util.Arrays.toString(of), want, signature(station, of));
    }

    private static void signaturesReckonedByHand() {
        SecureEntry station = Stations.enrolled();
        station.enrol(4, 5000);
        station.enrol(5, 9972);
        Check.due("an ID", 786, station.signature(0, 0, 5, 0, 0, 900));
        Check.due("a privilege", 4852, station.signature(1, 0, 5, 9, 0, 900));
        Check.due("a finger", 713, station.signature(2, 0, 5, 300, 0, 900));
        Check.due("an authorisation", 2773, station.signature(3, 6, 1, 4, 0, 100));
        Check.due("a middling one", 748, station.signature(2, 4, 50, 12345, 777, 88888));
        Check.due("the lowest numbers", 77, station.signature(0, 0, 0, 0, 0, 0));
        Check.due("the highest numbers", 6203, station.signature(3, 5, 99, 65535, 100000, 100000));
        Check.due("the highest numbers of the station", 8530, station.signature(3, 6, 99, 65535, 100000, 100000));
    }

    private static void everyNumberAtItsEdges() {
        SecureEntry station = withAllIssuers();
        for (int place = 0; place < HIGHEST.length; place++) {
            for (int number : Edges.inside(0, HIGHEST[place])) {
                rightFor(station, Edges.with(MIDDLING, place, number));
            }
        }
    }

    /** Every choice of lowest and highest numbers, for the products wrap around nowhere. */
    private static void allNumbersAtTheirEdges() {
        SecureEntry station = withAllIssuers();
        for (int choice = 0; choice < 64; choice++) {
            int[] of = new int[6];
            for (int place = 0; place < of.length; place++) {
                of[place] = (choice >> place & 1) == 1 ? HIGHEST[place] : 0;
            }
            rightFor(station, of);
            rightFor(station, Edges.with(of, 1, 5));
        }
    }

    /** 9972 + 1 is 0 mod 9973: the formula's last step wraps around just here. */
    private static void aRightSignatureMayBeZero() {
        SecureEntry station = Stations.enrolled();
        Check.due("signature at the wrap-around", 0, station.signature(0, 0, 0, 9972, 0, 0));
        Check.due("signature before it", Stations.KEY * 9972 % 9973, station.signature(0, 0, 0, 9971, 0, 0));
        Check.due("signature behind it", Stations.KEY, station.signature(0, 0, 0, 9973, 0, 0));
        station.certify(0, 0, 0, 0, 9972, 0, 0, 0);
        Check.due("a certificate with the right signature 0 is valid", 1, station.certificate(0, 0, 6));
        station.certify(0, 0, 1, 0, 9972, 0, 0, 0);
        Check.due("one by an issuer that is not enrolled", 0, station.certificate(0, 0, 6));
    }

    /** "0 if its issuer is not enrolled". */
    private static void zeroForAnIssuerThatIsNotEnrolled() {
        for (int issuer = 0; issuer < 6; issuer++) {
            SecureEntry station = withAllIssuers();
            int[] of = Edges.with(MIDDLING, 1, issuer);
            rightFor(station, of);
            station.enrol(issuer, 0);
            Check.due("signature by " + issuer + ", struck off", 0, signature(station, of));
            for (int other = 0; other <= 6; other++) {
                if (other != issuer) {
                    rightFor(station, Edges.with(MIDDLING, 1, other));
                }
            }
            Check.due("signature by " + issuer + ", never enrolled", 0, signature(new SecureEntry(), of));
        }
    }

    /** "IllegalArgumentException: a number out of range." */
    private static void numbersOutOfRange() {
        for (int at = 0; at < HIGHEST.length; at++) {
            int place = at;
            Refusal.outside(0, HIGHEST[place], Check.ARGUMENT, "signature, place " + place, Stations::up,
                    (station, number) -> signature(station, Edges.with(new int[6], place, number)));
        }
    }

    private static void numbersOutOfRangeBeforeTheIssuer() {
        for (int at = 0; at < HIGHEST.length; at++) {
            int place = at;
            Refusal.due(Check.ARGUMENT, "signature by one not enrolled, place " + place, SecureEntry::new,
                    station -> signature(station, Edges.with(new int[6], place, HIGHEST[place] + 1)));
        }
    }

    private static void theStateDoesNotMatter() {
        int want = Stations.rightSignature(Stations.KEY, 1, 5, 9, 4, 900);
        Check.due("signature while DOWN", want, Stations.enrolled().signature(1, 0, 5, 9, 4, 900));
        Check.due("signature while UP", want, Stations.upForFinger(4).signature(1, 0, 5, 9, 4, 900));
        Check.due("signature after shutdown", want, Stations.afterShutdown().signature(1, 0, 5, 9, 4, 900));
        SecureEntry last = Stations.enrolled();
        Stations.passTo(last, 100000);
        Check.due("signature at 100000", want, last.signature(1, 0, 5, 9, 4, 900));
    }
}
