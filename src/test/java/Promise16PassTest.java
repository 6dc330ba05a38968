public final class Promise16PassTest {
    private static final int FINGER = 1;
    private static final int ENTER = 2;
    private static final int WAIT = 3;

    public static void main(String[] args) {
        answersTheTime();
        secondsOutOfRange();
        beyondTheLastSecond();
        waitInTheStateFinger();
        waitInTheStateEnter();
        waitIsCountedAnewInEnter();
        waitIsCountedAnewAfterRemove();
        waitForRemovalDoesNotEnd();
        oneEntrySixAlone();
        shortestAndLongestWait();
        waitLowered();
        waitRaised();
        authorisationThatEnds();
        authorisationThatEndsAtTheLastSecond();
        theIdDoesNotCount();
        waitingEndsBeforeAdministration();
        administrationMayEndBeforeWaiting();
        secondBySecondOrAtOnce();
        intoAFullLog();
        Check.end();
    }

    /** "The time goes on by n (1 .. 1000) seconds ... Answers the time." */
    private static void answersTheTime() {
        SecureEntry station = new SecureEntry();
        Check.due("pass(1)", 1, station.pass(1));
        Check.due("pass(1000)", 1001, station.pass(1000));
        Check.due("the time", 1001, station.count(8));
        Check.due("pass(999)", 2000, station.pass(999));
        Check.due("entries", 0, station.count(7));
        SecureEntry up = Stations.up();
        Check.due("pass(1) while UP", 1, up.pass(1));
        Check.due("pass(1000) while UP", 1001, up.pass(1000));
        Check.counts(up, "after pass", 1, 0, 0, 0, 0, 0, 0, 1, 1001, -1, -1);
    }

    /** "IllegalArgumentException: out of range". */
    private static void secondsOutOfRange() {
        Refusal.outside(1, 1000, Check.ARGUMENT, "pass of a new object", SecureEntry::new, SecureEntry::pass);
        Refusal.outside(1, 1000, Check.ARGUMENT, "pass in the state FINGER", () -> Stations.upForFinger(4),
                SecureEntry::pass);
        Refusal.outside(1, 1000, Check.ARGUMENT, "pass after shutdown", Stations::afterShutdown, SecureEntry::pass);
        Refusal.outside(1, 1000, Check.ARGUMENT, "pass at 100000", () -> at(100000), SecureEntry::pass);
    }

    private static SecureEntry at(int time) {
        SecureEntry station = Stations.enrolled();
        Stations.passTo(station, time);
        return station;
    }

    /** "or beyond 100000". */
    private static void beyondTheLastSecond() {
        Check.due("pass(1000) at 99000", 100000, at(99000).pass(1000));
        Check.due("pass(500) at 99500", 100000, at(99500).pass(500));
        Check.due("pass(1) at 99999", 100000, at(99999).pass(1));
        Refusal.due(Check.ARGUMENT, "pass(1000) at 99001", () -> at(99001), station -> station.pass(1000));
        Refusal.due(Check.ARGUMENT, "pass(501) at 99500", () -> at(99500), station -> station.pass(501));
        Refusal.due(Check.ARGUMENT, "pass(2) at 99999", () -> at(99999), station -> station.pass(2));
        Refusal.due(Check.ARGUMENT, "pass(1) at 100000", () -> at(100000), station -> station.pass(1));
        Refusal.due(Check.ARGUMENT, "pass(1000) at 100000", () -> at(100000), station -> station.pass(1000));
        Refusal.due(Check.ARGUMENT, "pass beyond with a user waiting", () -> {
            SecureEntry station = Stations.up();
            Stations.giveGood(station, 0, 5, 4);
            Stations.passTo(station, 99980);
            station.insert(0);
            return station;
        }, station -> station.pass(21));
    }

    /** "if the user state has been FINGER or ENTER for WAIT seconds ...: WAIT and entry 6". */
    private static void waitInTheStateFinger() {
        SecureEntry station = Stations.up();
        Stations.giveGood(station, 0, 5, 4);
        station.pass(3);
        station.insert(0);
        station.pass(19);
        Check.due("user state at 22", FINGER, station.count(1));
        Check.due("entries at 22", 2, station.count(7));
        station.pass(1);
        Check.counts(station, "at 23", 1, WAIT, 0, 0, 0, 0, 0, 3, 23, 0, -1);
        Check.log(station, "at 23", 1, 0, -1, 2, 3, 5, 6, 23, 5);
    }

    private static void waitInTheStateEnter() {
        SecureEntry station = Stations.up();
        Stations.giveAuthorisation(station, 0, 5, 0, Stations.ALWAYS);
        station.pass(3);
        station.insert(0);
        station.pass(19);
        Check.due("user state at 22", ENTER, station.count(1));
        station.pass(1);
        Check.counts(station, "at 23", 1, WAIT, 0, 0, 0, 0, 0, 4, 23, 0, -1);
        Check.log(station, "at 23", 1, 0, -1, 2, 3, 5, 7, 3, 5, 6, 23, 5);
    }

    /** "since it became so": a finger makes it ENTER, and the seconds are counted from there. */
    private static void waitIsCountedAnewInEnter() {
        SecureEntry station = Stations.upForFinger(4);
        station.pass(15);
        station.finger(Stations.TEMPLATE);
        station.pass(19);
        Check.due("user state at 34", ENTER, station.count(1));
        station.pass(1);
        Check.due("user state at 35", WAIT, station.count(1));
        Check.log(station, "at 35", 1, 0, -1, 2, 0, 5, 4, 15, 5, 7, 15, 5, 6, 35, 5);
    }

    private static void waitIsCountedAnewAfterRemove() {
        SecureEntry station = Stations.upForFinger(4);
        station.pass(15);
        station.remove();
        station.pass(10);
        station.insert(0);
        station.pass(19);
        Check.due("user state at 44", FINGER, station.count(1));
        station.pass(1);
        Check.due("user state at 45", WAIT, station.count(1));
    }

    private static void waitForRemovalDoesNotEnd() {
        SecureEntry station = Stations.upForRemoval();
        station.pass(1000);
        Check.due("user state", WAIT, station.count(1));
        Check.due("the outer reader", 0, station.count(9));
        Check.due("entries", 3, station.count(7));
        SecureEntry idle = Stations.up();
        idle.pass(1000);
        Check.counts(idle, "after 1000 seconds", 1, 0, 0, 0, 0, 0, 0, 1, 1000, -1, -1);
    }

    private static void oneEntrySixAlone() {
        SecureEntry station = Stations.upForFinger(4);
        Check.due("pass(1000)", 1000, station.pass(1000));
        Check.log(station, "after 1000 seconds", 1, 0, -1, 2, 0, 5, 6, 20, 5);
        station.pass(1000);
        Check.due("entries after 2000 seconds", 3, station.count(7));
    }

    /** With an officer, and a token 0 that may enter. */
    private static SecureEntry withWait(int seconds) {
        SecureEntry station = Stations.upWith(Stations.OFFICER);
        Stations.giveAuthorisation(station, 0, 3, 0, Stations.ALWAYS);
        Stations.giveGood(station, 1, 4, 4);
        station.configure(2, seconds);
        return station;
    }

    /** With WAIT 0 the first second that passes is already too long; inserting alone ends nothing. */
    private static void shortestAndLongestWait() {
        int[] waits = {0, 1, 2, 1000};
        for (int wait : waits) {
            for (int token = 0; token < 2; token++) {
                SecureEntry station = withWait(wait);
                int waiting = token == 0 ? ENTER : FINGER;
                Check.due("insert with WAIT " + wait, waiting, station.insert(token));
                int last = wait == 0 ? 1 : wait;
                if (last > 1) {
                    station.pass(last - 1);
                    Check.due("user state a second before WAIT " + wait, waiting, station.count(1));
                }
                station.pass(1);
                Check.due("user state after WAIT " + wait, WAIT, station.count(1));
                Check.newest(station, "after WAIT " + wait, 6, last, 3 + token);
            }
        }
        SecureEntry quick = withWait(0);
        quick.insert(1);
        Check.due("finger with WAIT 0", ENTER, quick.finger(Stations.TEMPLATE));
        quick.remove();
        Check.due("unlocked with WAIT 0", 1, quick.count(3));
    }

    /** A state that has been so for longer than the new WAIT ends after the next second. */
    private static void waitLowered() {
        int[] lowered = {0, 10, 24, 25, 26};
        for (int wait : lowered) {
            for (int token = 0; token < 2; token++) {
                SecureEntry station = withWait(30);
                int waiting = station.insert(token);
                station.pass(25);
                station.configure(2, wait);
                Check.due("user state when WAIT becomes " + wait, waiting, station.count(1));
                station.pass(1);
                Check.due("user state after that", WAIT, station.count(1));
                Check.newest(station, "after WAIT became " + wait, 6, 26, 3 + token);
            }
        }
        SecureEntry station = withWait(30);
        station.insert(0);
        station.pass(25);
        station.configure(2, 27);
        station.pass(1);
        Check.due("user state at 26 with WAIT 27", ENTER, station.count(1));
        station.pass(1);
        Check.due("user state at 27 with WAIT 27", WAIT, station.count(1));
    }

    private static void waitRaised() {
        SecureEntry station = withWait(20);
        station.insert(0);
        station.pass(19);
        station.configure(2, 21);
        station.pass(1);
        Check.due("user state at 20", ENTER, station.count(1));
        station.pass(1);
        Check.due("user state at 21", WAIT, station.count(1));
    }

    /** "an administrator whose authorisation is not valid any more is logged off: entry 11, the token staying in". */
    private static void authorisationThatEnds() {
        for (int role = 1; role <= 3; role++) {
            SecureEntry station = Stations.upWith(role, 50);
            station.pass(50);
            Check.counts(station, "at TO", 1, 0, role, 0, 0, 0, 0, 2, 50, -1, 5);
            station.pass(1);
            Check.counts(station, "behind TO", 1, 0, 0, 0, 0, 0, 0, 3, 51, -1, 5);
            Check.log(station, "behind TO", 1, 0, -1, 10, 0, 50, 11, 51, 50);
            station.pass(1000);
            Check.due("entries later", 3, station.count(7));
            Check.due("logoff()", Stations.ADMINISTRATOR, station.logoff());
            Check.due("logon again", 0, station.logon(Stations.ADMINISTRATOR));
        }
        SecureEntry atOnce = Stations.upWith(Stations.GUARD, 0);
        Check.due("role at 0, TO 0", 1, atOnce.count(2));
        Check.due("override() at 0, TO 0", 5, atOnce.override());
        atOnce.pass(1);
        Check.due("role at 1, TO 0", 0, atOnce.count(2));
    }

    private static void authorisationThatEndsAtTheLastSecond() {
        SecureEntry last = Stations.upWith(Stations.GUARD, 100000);
        Stations.passTo(last, 100000);
        Check.due("role at 100000, TO 100000", 1, last.count(2));
        SecureEntry before = Stations.upWith(Stations.GUARD, 99999);
        Stations.passTo(before, 100000);
        Check.due("role at 100000, TO 99999", 0, before.count(2));
        Check.newest(before, "at 100000", 11, 100000, 50);
    }

    private static void theIdDoesNotCount() {
        SecureEntry station = Stations.up();
        Stations.giveAuthorisation(station, 1, 7, 1, Stations.ALWAYS);
        Stations.certifyRightly(station, 1, 0, 0, 7, 0, 10);
        station.logon(1);
        station.pass(20);
        Check.due("role after the ID is out of time", 1, station.count(2));
        Check.due("override()", 25, station.override());
        Check.newest(station, "after override", 12, 20, 7);
    }

    /** "then, an administrator ...": entry 6 stands before entry 11 of the same second. */
    private static void waitingEndsBeforeAdministration() {
        SecureEntry station = Stations.upWith(Stations.AUDITOR, 19);
        Stations.giveGood(station, 0, 5, 4);
        station.insert(0);
        station.pass(40);
        Check.log(station, "at 40", 1, 0, -1, 10, 0, 50, 2, 0, 5, 6, 20, 5, 11, 20, 50);
    }

    private static void administrationMayEndBeforeWaiting() {
        SecureEntry station = Stations.upWith(Stations.AUDITOR, 18);
        Stations.giveGood(station, 0, 5, 4);
        station.insert(0);
        station.pass(40);
        Check.log(station, "at 40", 1, 0, -1, 10, 0, 50, 2, 0, 5, 11, 19, 50, 6, 20, 5);
    }

    private static SecureEntry waitingBoth() {
        SecureEntry station = Stations.upWith(Stations.GUARD, 25);
        Stations.giveGood(station, 0, 5, 4);
        station.insert(0);
        station.override();
        station.door(true);
        return station;
    }

    private static void secondBySecondOrAtOnce() {
        SecureEntry atOnce = waitingBoth();
        atOnce.pass(60);
        SecureEntry bySecond = waitingBoth();
        for (int second = 0; second < 60; second++) {
            bySecond.pass(1);
        }
        Check.same("60 seconds", Stations.wholeView(atOnce), Stations.wholeView(bySecond));
    }

    /** Of two entries in one second the first fills the log and the second is the 17th. */
    private static void intoAFullLog() {
        for (int entries = 14; entries <= 16; entries++) {
            SecureEntry station = Stations.upWith(Stations.AUDITOR, 19);
            Stations.giveGood(station, 0, 5, 4);
            station.insert(0);
            Stations.fillLog(station, entries);
            station.pass(20);
            int[] left = {16, 13, 14};
            Check.due("entries after " + entries, left[entries - 14], station.count(7));
            Check.due("log alarm after " + entries, entries == 14 ? 0 : 1, station.count(6));
            Check.newest(station, "after " + entries, 9, 0, -1, 6, 20, 5, 11, 20, 50);
        }
    }
}
