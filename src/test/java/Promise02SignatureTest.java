public final class Promise02SignatureTest {
    public static void main(String[] args) {
        rightSignatures();
        ofIssuersThatAreNotEnrolled();
        numbersOutOfRange();
        Check.end();
    }

    private static void rightSignatures() {
        SecureEntry station = new SecureEntry();
        station.enrol(0, 77);
        station.enrol(1, 1);
        station.enrol(4, 5000);
        station.enrol(5, 9972);
        Check.due("an ID", 786, station.signature(0, 0, 5, 0, 0, 900));
        Check.due("a privilege", 4852, station.signature(1, 0, 5, 9, 0, 900));
        Check.due("a finger", 713, station.signature(2, 0, 5, 300, 0, 900));
        Check.due("an authorisation", 2773, station.signature(3, 6, 1, 4, 0, 100));
        Check.due("a middling one", 748, station.signature(2, 4, 50, 12345, 777, 88888));
        Check.due("the lowest numbers", 1, station.signature(0, 1, 0, 0, 0, 0));
        Check.due("the highest key", 9972, station.signature(0, 5, 0, 0, 0, 0));
        Check.due("the highest numbers", 6203, station.signature(3, 5, 99, 65535, 100000, 100000));
        Check.due("the highest numbers of the station", 8530, station.signature(3, 6, 99, 65535, 100000, 100000));
    }

    private static void ofIssuersThatAreNotEnrolled() {
        SecureEntry station = Stations.enrolled();
        Check.due("an issuer never enrolled", 0, station.signature(0, 1, 5, 0, 0, 900));
        station.enrol(0, 0);
        Check.due("an issuer struck off", 0, station.signature(0, 0, 5, 0, 0, 900));
        Check.due("the station", 4711, station.signature(0, 6, 0, 0, 0, 0));
    }

    private static void numbersOutOfRange() {
        SecureEntry station = Stations.enrolled();
        int[] highest = {3, 6, 99, 65535, 100000, 100000};
        for (int place = 0; place < highest.length; place++) {
            refuse(station, place, -1);
            refuse(station, place, highest[place] + 1);
            refuse(station, place, place % 2 == 0 ? Integer.MIN_VALUE : Integer.MAX_VALUE);
        }
    }

    private static void refuse(SecureEntry station, int place, int number) {
        int[] of = new int[6];
        of[place] = number;
        Check.refused(station, Check.ARGUMENT, "signature with " + number + " at place " + place,
                () -> station.signature(of[0], of[1], of[2], of[3], of[4], of[5]));
    }
}
