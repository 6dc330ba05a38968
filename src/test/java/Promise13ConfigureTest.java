import java.util.function.Supplier;

public final class Promise13ConfigureTest {
    private static final int[] FIRST = {5, 10, 20, 100, 2, 1};
    private static final int[] HIGHEST = {1000, 1000, 1000, 1000, 16, 3};

    public static void main(String[] args) {
        answersTheOneBefore();
        entryFourteen();
        outlastsShutdown();
        leavesWhatIsSetAlready();
        whichOutOfRange();
        valuesOutOfRange();
        noAdministrator();
        theRoleIsNotOfficer();
        refusesInOrder();
        whileDown();
        Check.end();
    }

    /** "Sets a number of the configuration; ... answers the one before", at both edges of each. */
    private static void answersTheOneBefore() {
        for (int which = 0; which < 6; which++) {
            SecureEntry station = Stations.upWith(Stations.OFFICER);
            Check.due("first of " + which, FIRST[which], station.configure(which, HIGHEST[which]));
            Check.due("highest of " + which, HIGHEST[which], station.configure(which, 0));
            Check.due("lowest of " + which, 0, station.configure(which, 1));
            for (int other = 0; other < 6; other++) {
                int due = other == which ? 1 : FIRST[other];
                Check.due(other + " beside " + which, due, station.configure(other, due));
            }
        }
    }

    private static void entryFourteen() {
        for (int which = 0; which < 6; which++) {
            SecureEntry station = Stations.upWith(Stations.OFFICER);
            station.pass(2);
            station.configure(which, 0);
            Check.log(station, "after configure", 1, 0, -1, 10, 0, 50, 14, 2, 50);
            station.configure(which, 0);
            Check.log(station, "after no change", 1, 0, -1, 10, 0, 50, 14, 2, 50, 14, 2, 50);
            Check.counts(station, "after configure", 1, 0, 3, 0, 0, 0, 0, 4, 2, -1, 5);
        }
    }

    private static void outlastsShutdown() {
        SecureEntry station = Stations.upWith(Stations.OFFICER);
        for (int which = 0; which < 6; which++) {
            station.configure(which, 3);
        }
        station.shutdown();
        station.start();
        station.logon(Stations.ADMINISTRATOR);
        for (int which = 0; which < 6; which++) {
            Check.due("after a new start " + which, 3, station.configure(which, 1));
        }
    }

    /** UNTIL and the alarm time are set by unlocking, an authorisation by a finger: they stay. */
    private static void leavesWhatIsSetAlready() {
        SecureEntry station = Stations.upWith(Stations.OFFICER);
        Stations.giveGood(station, 0, 3, 15);
        station.insert(0);
        station.finger(Stations.TEMPLATE);
        station.remove();
        for (int which = 0; which < 6; which++) {
            station.configure(which, 0);
        }
        Check.certificate(station, 0, 3, 6, 3, 7, 0, 100);
        station.door(true);
        station.pass(4);
        Check.due("unlocked at 4", 1, station.count(3));
        station.pass(1);
        Check.due("unlocked at 5", 0, station.count(3));
        station.pass(9);
        Check.due("alarm at 14", 0, station.count(5));
        station.pass(1);
        Check.due("alarm at 15", 1, station.count(5));
    }

    /** "IllegalArgumentException: which not 0 .. 5". */
    private static void whichOutOfRange() {
        Refusal.outside(0, 5, Check.ARGUMENT, "configure", () -> Stations.upWith(Stations.OFFICER),
                (station, which) -> station.configure(which, 0));
        Refusal.outside(0, 5, Check.ARGUMENT, "configure to 3", () -> Stations.upWith(Stations.OFFICER),
                (station, which) -> station.configure(which, 3));
    }

    /** "or value not 0 .. 1000 (0 to 3), 0 .. 16 (4), 0 .. 3 (5)". */
    private static void valuesOutOfRange() {
        for (int each = 0; each < 6; each++) {
            int which = each;
            Refusal.outside(0, HIGHEST[which], Check.ARGUMENT, "configure of " + which,
                    () -> Stations.upWith(Stations.OFFICER), (station, value) -> station.configure(which, value));
        }
    }

    /** "IllegalStateException: no administrator." */
    private static void noAdministrator() {
        Refusal.due(Check.STATE, "configure with empty readers", Stations::up, station -> station.configure(0, 1));
        Refusal.due(Check.STATE, "configure for a refused token", Promise13ConfigureTest::withRefused,
                station -> station.configure(0, 1));
        for (int each = 1; each <= 3; each++) {
            int role = each;
            Refusal.due(Check.STATE, "configure by a lapsed " + role, () -> Stations.upWithLapsed(role),
                    station -> station.configure(0, 1));
        }
    }

    private static SecureEntry withRefused() {
        SecureEntry station = Stations.up();
        station.logon(1);
        return station;
    }

    /** "UnsupportedOperationException: the role is not OFFICER." */
    private static void theRoleIsNotOfficer() {
        for (int each = 0; each < 6; each++) {
            int which = each;
            Refusal.due(Check.UNSUPPORTED, "configure by a guard", () -> Stations.upWith(Stations.GUARD),
                    station -> station.configure(which, 0));
            Refusal.due(Check.UNSUPPORTED, "configure by an auditor", () -> Stations.upWith(Stations.AUDITOR),
                    station -> station.configure(which, 0));
        }
    }

    private static void refusesInOrder() {
        wrongNumbers(Check.STATE, "while DOWN", Stations::enrolled);
        wrongNumbers(Check.STATE, "with empty readers", Stations::up);
        wrongNumbers(Check.STATE, "for a refused token", Promise13ConfigureTest::withRefused);
        wrongNumbers(Check.STATE, "by a lapsed officer", () -> Stations.upWithLapsed(Stations.OFFICER));
        wrongNumbers(Check.UNSUPPORTED, "by a guard", () -> Stations.upWith(Stations.GUARD));
        wrongNumbers(Check.UNSUPPORTED, "by an auditor", () -> Stations.upWith(Stations.AUDITOR));
        wrongNumbers(Check.ARGUMENT, "by an officer", () -> Stations.upWith(Stations.OFFICER));
    }

    private static void wrongNumbers(Class<? extends RuntimeException> want, String when,
            Supplier<SecureEntry> maker) {
        Refusal.due(want, "configure(6, 0) " + when, maker, station -> station.configure(6, 0));
        Refusal.due(want, "configure(-1, -1) " + when, maker, station -> station.configure(-1, -1));
        Refusal.due(want, "configure(0, 1001) " + when, maker, station -> station.configure(0, 1001));
        Refusal.due(want, "configure(5, -1) " + when, maker, station -> station.configure(5, -1));
    }

    private static void whileDown() {
        Refusal.due(Check.STATE, "configure while DOWN", Stations::enrolled, station -> station.configure(0, 1));
        Refusal.due(Check.STATE, "configure after shutdown", Stations::afterShutdown,
                station -> station.configure(0, 1));
    }
}
