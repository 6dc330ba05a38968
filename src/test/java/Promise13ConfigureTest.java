public final class Promise13ConfigureTest {
    private static final int[] FIRST = {5, 10, 20, 100, 2, 1};
    private static final int[] HIGHEST = {1000, 1000, 1000, 1000, 16, 3};

    public static void main(String[] args) {
        setsEveryNumber();
        outlastsShutdown();
        leavesTheLatchAsItIs();
        refusesOutOfRange();
        refusesInOrder();
        Check.end();
    }

    private static void setsEveryNumber() {
        SecureEntry station = Stations.upWith(Stations.OFFICER);
        station.pass(2);
        for (int which = 0; which < 6; which++) {
            Check.due("configure to the highest " + which, FIRST[which], station.configure(which, HIGHEST[which]));
        }
        for (int which = 0; which < 6; which++) {
            Check.due("configure to 0 " + which, HIGHEST[which], station.configure(which, 0));
        }
        Check.due("configure again", 0, station.configure(0, 0));
        Check.due("entries", 15, station.count(7));
        for (int index = 2; index < 15; index++) {
            Check.due("kind at " + index, 14, station.entry(index, 0));
            Check.due("time at " + index, 2, station.entry(index, 1));
            Check.due("holder at " + index, 50, station.entry(index, 2));
        }
    }

    private static void outlastsShutdown() {
        SecureEntry station = Stations.upWith(Stations.OFFICER);
        station.configure(3, 42);
        station.shutdown();
        station.start();
        station.logon(Stations.ADMINISTRATOR);
        Check.due("configure after a new start", 42, station.configure(3, 43));
    }

    private static void leavesTheLatchAsItIs() {
        SecureEntry station = Stations.upWith(Stations.OFFICER);
        Stations.giveAuthorisation(station, 0, 3, 0, Stations.ALWAYS);
        station.insert(0);
        station.remove();
        station.configure(0, 0);
        station.configure(1, 0);
        station.door(true);
        station.pass(4);
        Check.due("unlocked at 4", 1, station.count(3));
        station.pass(10);
        Check.due("alarm at 14", 0, station.count(5));
        station.pass(1);
        Check.due("alarm at 15", 1, station.count(5));
    }

    private static void refusesOutOfRange() {
        SecureEntry station = Stations.upWith(Stations.OFFICER);
        for (int number = 0; number < 6; number++) {
            int which = number;
            Check.refused(station, Check.ARGUMENT, "configure too low " + which,
                    () -> station.configure(which, -1));
            Check.refused(station, Check.ARGUMENT, "configure too high " + which,
                    () -> station.configure(which, HIGHEST[which] + 1));
        }
        Check.refused(station, Check.ARGUMENT, "configure(6, 0)", () -> station.configure(6, 0));
        Check.refused(station, Check.ARGUMENT, "configure(-1, 0)", () -> station.configure(-1, 0));
        for (int which = 0; which < 6; which++) {
            Check.due("configure after refusals", FIRST[which], station.configure(which, 1));
        }
    }

    private static void refusesInOrder() {
        SecureEntry down = Stations.enrolled();
        Check.refused(down, Check.STATE, "configure(9, 9) while DOWN", () -> down.configure(9, 9));
        SecureEntry alone = Stations.up();
        alone.logon(1);
        Check.refused(alone, Check.STATE, "configure without an administrator", () -> alone.configure(9, 9));
        SecureEntry guard = Stations.upWith(Stations.GUARD);
        Check.refused(guard, Check.UNSUPPORTED, "configure by a guard", () -> guard.configure(9, 9));
        SecureEntry auditor = Stations.upWith(Stations.AUDITOR);
        Check.refused(auditor, Check.UNSUPPORTED, "configure by an auditor", () -> auditor.configure(0, 9));
    }
}
