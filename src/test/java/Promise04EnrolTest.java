public final class Promise04EnrolTest {
    public static void main(String[] args) {
        enrolsAndStrikesOff();
        refusesOutOfRange();
        refusesWhileUp();
        Check.end();
    }

    private static void enrolsAndStrikesOff() {
        SecureEntry station = new SecureEntry();
        Check.due("enrol(0, 9972)", 0, station.enrol(0, 9972));
        Check.due("enrol(0, 1)", 9972, station.enrol(0, 1));
        Check.due("enrol(5, 123)", 0, station.enrol(5, 123));
        Check.due("signature by 0", 1, station.signature(0, 0, 0, 0, 0, 0));
        Check.due("signature by 5", 123, station.signature(0, 5, 0, 0, 0, 0));
        Check.due("enrol(0, 0)", 1, station.enrol(0, 0));
        Check.due("enrol(0, 0) again", 0, station.enrol(0, 0));
        Check.due("signature by one struck off", 0, station.signature(0, 0, 0, 0, 0, 0));
        Check.due("start()", 1, station.start());
    }

    private static void refusesOutOfRange() {
        SecureEntry station = new SecureEntry();
        Check.refused(station, Check.ARGUMENT, "enrol(6, 1)", () -> station.enrol(6, 1));
        Check.refused(station, Check.ARGUMENT, "enrol(-1, 1)", () -> station.enrol(-1, 1));
        Check.refused(station, Check.ARGUMENT, "enrol(0, 9973)", () -> station.enrol(0, 9973));
        Check.refused(station, Check.ARGUMENT, "enrol(0, -1)", () -> station.enrol(0, -1));
        Check.due("enrol(0, 5) after refusals", 0, station.enrol(0, 5));
    }

    private static void refusesWhileUp() {
        SecureEntry station = Stations.upWith(Stations.OFFICER);
        Check.refused(station, Check.STATE, "enrol(0, 1) while UP", () -> station.enrol(0, 1));
        Check.refused(station, Check.STATE, "enrol(0, 0) while UP", () -> station.enrol(0, 0));
        Check.refused(station, Check.ARGUMENT, "enrol(6, 1) while UP", () -> station.enrol(6, 1));
        station.shutdown();
        Check.due("enrol(0, 2) after shutdown", 77, station.enrol(0, 2));
    }
}
