public final class Promise01NewObjectTest {
    public static void main(String[] args) {
        stateOfANewObject();
        nothingOnTokensNorInTheLog();
        issuersOfANewObject();
        configurationOfANewObject();
        objectsAreApart();
        Check.end();
    }

    private static void stateOfANewObject() {
        Check.counts(new SecureEntry(), "of a new object", 0, 0, 0, 0, 0, 0, 0, 0, 0, -1, -1);
    }

    private static void nothingOnTokensNorInTheLog() {
        for (int number = 0; number < 6; number++) {
            int token = number;
            SecureEntry station = new SecureEntry();
            for (int each = 0; each < 4; each++) {
                int kind = each;
                Check.refused(station, Check.NO_ELEMENT, "certificate of a new object",
                        () -> station.certificate(token, kind, 0));
            }
            Check.refused(station, Check.NO_ELEMENT, "entry of a new object", () -> station.entry(0, 0));
        }
    }

    private static void issuersOfANewObject() {
        SecureEntry station = new SecureEntry();
        for (int issuer = 0; issuer < 6; issuer++) {
            Check.due("signature by " + issuer, 0, station.signature(0, issuer, 0, 0, 0, 0));
            Check.due("enrol(" + issuer + ", 0)", 0, station.enrol(issuer, 0));
        }
        Check.due("signature by the station", 4711, station.signature(0, 6, 0, 0, 0, 0));
    }

    private static void configurationOfANewObject() {
        SecureEntry station = Stations.upWith(Stations.OFFICER);
        int[] first = {5, 10, 20, 100, 2, 1};
        for (int which = 0; which < first.length; which++) {
            Check.due("configure(" + which + ", 0)", first[which], station.configure(which, 0));
        }
    }

    private static void objectsAreApart() {
        SecureEntry changed = Stations.upWith(Stations.OFFICER);
        changed.configure(0, 77);
        SecureEntry fresh = Stations.upWith(Stations.OFFICER);
        Check.due("configure on another object", 5, fresh.configure(0, 1));
        Check.counts(new SecureEntry(), "of another object", 0, 0, 0, 0, 0, 0, 0, 0, 0, -1, -1);
    }
}
