public final class Promise03CertifyTest {
    public static void main(String[] args) {
        givesAndReplaces();
        takesTheHighestNumbers();
        refusesInOrder();
        refusesNumbersOutOfRange();
        refusesTokensInReaders();
        Check.end();
    }

    private static void givesAndReplaces() {
        SecureEntry station = new SecureEntry();
        for (int kind = 0; kind < 4; kind++) {
            Check.due("the first of kind " + kind, 1, station.certify(2, kind, 1, 2, 3, 4, 5, 6));
            Check.due("the second of kind " + kind, 0, station.certify(2, kind, 6, 20, 30 + kind, 50, 40, 60));
            Check.due("the same on another token", 1, station.certify(3, kind, 0, 0, 0, 0, 0, 0));
        }
        int[] want = {6, 20, 30, 50, 40, 60, 0};
        for (int kind = 0; kind < 4; kind++) {
            for (int what = 0; what < want.length; what++) {
                int due = what == 2 ? 30 + kind : want[what];
                Check.due("certificate(2, " + kind + ", " + what + ")", due, station.certificate(2, kind, what));
            }
        }
    }

    private static void takesTheHighestNumbers() {
        SecureEntry station = Stations.up();
        Check.due("the highest numbers", 1, station.certify(5, 3, 6, 99, 65535, 100000, 100000, 9972));
        Check.due("the lowest numbers", 1, station.certify(0, 0, 0, 0, 0, 0, 0, 0));
    }

    private static void refusesInOrder() {
        SecureEntry station = Stations.up();
        station.insert(0);
        Check.refused(station, Check.NO_ELEMENT, "certify token 6",
                () -> station.certify(6, 9, 0, 0, 0, 0, 0, 0));
        Check.refused(station, Check.NO_ELEMENT, "certify token -1",
                () -> station.certify(-1, 0, 0, 0, 0, 0, 0, 9973));
        Check.refused(station, Check.ARGUMENT, "certify a token in a reader with kind 4",
                () -> station.certify(0, 4, 0, 0, 0, 0, 0, 0));
        Check.refused(station, Check.STATE, "certify a token in a reader",
                () -> station.certify(0, 0, 0, 0, 0, 0, 0, 0));
        Check.refused(station, Check.NO_ELEMENT, "what was not given", () -> station.certificate(0, 0, 0));
    }

    private static void refusesNumbersOutOfRange() {
        SecureEntry station = Stations.up();
        int[] highest = {3, 6, 99, 65535, 100000, 100000, 9972};
        for (int place = 0; place < highest.length; place++) {
            refuse(station, place, -1);
            refuse(station, place, highest[place] + 1);
        }
        Check.due("certify after refusals", 1, station.certify(1, 0, 0, 0, 0, 0, 0, 0));
    }

    private static void refuse(SecureEntry station, int place, int number) {
        int[] of = new int[7];
        of[place] = number;
        Check.refused(station, Check.ARGUMENT, "certify with " + number + " at place " + place,
                () -> station.certify(1, of[0], of[1], of[2], of[3], of[4], of[5], of[6]));
    }

    private static void refusesTokensInReaders() {
        SecureEntry station = Stations.up();
        station.insert(1);
        station.logon(2);
        Check.refused(station, Check.STATE, "certify in the outer reader",
                () -> station.certify(1, 0, 0, 0, 0, 0, 0, 0));
        Check.refused(station, Check.STATE, "certify in the inner reader",
                () -> station.certify(2, 0, 0, 0, 0, 0, 0, 0));
        station.remove();
        station.logoff();
        Check.due("certify after remove", 1, station.certify(1, 0, 0, 0, 0, 0, 0, 0));
        Check.due("certify after logoff", 1, station.certify(2, 0, 0, 0, 0, 0, 0, 0));
    }
}
