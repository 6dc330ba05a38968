/** Runs in which several terms of the document meet. */
public final class TermsTogetherTest {
    private static final int ENTER = 2;
    private static final int WAIT = 3;

    public static void main(String[] args) {
        certifyBesideAnAdministrator();
        certifyAnewBetweenTwoLogons();
        certifyOverAnAuthorisationByFinger();
        certifyNotWhileALapsedTokenIsIn();
        struckOffBetweenShutdownAndStart();
        enrolledAnewBetweenShutdownAndStart();
        struckOffForOneCertificateAlone();
        authorisationOutlastsItsGivers();
        noIssuerLeftForTheNextStart();
        latchChangedWhileUnlocked();
        silenceChangedWhileTheAlarmTimeRuns();
        silenceChangedBehindAForcedDoor();
        fingerTakesTheNumbersOfItsOwnTime();
        periodAndClassChangedAfterwards();
        waitChangedBetweenFingerAndEnter();
        secondEntryOfAnInsertIntoAFullLog();
        secondsOfOnePassIntoAFullLog();
        archivedInTheMiddleOfAUse();
        allInOneSecond();
        Check.end();
    }

    private static void shutdownAndEnrol(SecureEntry station, int issuer, int key) {
        station.shutdown();
        station.enrol(issuer, key);
    }

    /** Another token may bear the administrator's holder, and an authorisation that is not valid. */
    private static void certifyBesideAnAdministrator() {
        for (int role = 1; role <= 3; role++) {
            SecureEntry station = Stations.upWith(role);
            Stations.giveAuthorisation(station, 1, Stations.ADMINISTRATOR_HOLDER, 0, 3);
            Check.due("an ID given anew", 0, station.certify(1, 0, 0, 8, 0, 0, 9, 0));
            Check.due("an authorisation given anew", 0, station.certify(1, 3, 6, 8, 65535, 9, 0, 0));
            station.pass(30);
            Check.counts(station, "beside a token given anew", 1, 0, role, 0, 0, 0, 0, 2, 30, -1, 5);
            Check.certificate(station, 5, 0, 0, 50, 0, 0, 100000, station.signature(0, 0, 50, 0, 0, 100000), 1);
            Check.certificate(station, 5, 3, 6, 50, role, 0, 100000, station.signature(3, 6, 50, role, 0, 100000), 1);
            station.logoff();
            Check.newest(station, "after logoff", 11, 30, 50);
        }
    }

    /** Role and holder are those of the certificates that the token has when it goes in. */
    private static void certifyAnewBetweenTwoLogons() {
        SecureEntry station = Stations.upWith(Stations.GUARD);
        station.logoff();
        Stations.giveAuthorisation(station, 5, 61, Stations.AUDITOR, 40);
        Check.due("logon with the new authorisation", Stations.AUDITOR, station.logon(5));
        Check.newest(station, "after the second logon", 11, 0, 50, 10, 0, 61);
        station.pass(41);
        Check.newest(station, "after the new TO", 10, 0, 61, 11, 41, 61);
        station.logoff();
        Stations.certifyRightly(station, 5, 0, 0, 62, 0, Stations.ALWAYS);
        Stations.certifyRightly(station, 5, 3, 6, 61, Stations.GUARD, Stations.ALWAYS);
        Check.due("logon with two holders", 0, station.logon(5));
        Check.newest(station, "after the third logon", 11, 41, 61, 16, 41, 62);
    }

    private static void certifyOverAnAuthorisationByFinger() {
        SecureEntry station = Stations.upForFinger(4);
        station.finger(Stations.TEMPLATE);
        station.remove();
        Check.due("certify over it", 0, station.certify(0, 3, 0, 5, 4, 0, 100, 1));
        Check.due("insert is for a finger again", 1, station.insert(0));
        station.remove();
        Stations.certifyRightly(station, 0, 0, 0, 6, 0, Stations.ALWAYS);
        Check.due("insert with the ID of another holder", WAIT, station.insert(0));
        Check.newest(station, "after that", 8, 0, 5, 2, 0, 6, 3, 0, 6);
    }

    /** "the token staying in": it is still in a reader, though no administrator's any more. */
    private static void certifyNotWhileALapsedTokenIsIn() {
        Refusal.due(Check.STATE, "certify of a lapsed token", () -> Stations.upWithLapsed(Stations.OFFICER),
                station -> station.certify(5, 3, 6, 50, 3, 0, 100, 0));
        SecureEntry station = Stations.upWithLapsed(Stations.OFFICER);
        station.logoff();
        Stations.certifyRightly(station, 5, 3, 6, 50, Stations.OFFICER, Stations.ALWAYS);
        Check.due("logon when it was out", Stations.OFFICER, station.logon(5));
    }

    private static void struckOffBetweenShutdownAndStart() {
        SecureEntry station = Stations.upWith(Stations.OFFICER);
        Stations.giveGood(station, 0, 5, 4);
        Check.due("insert before", 1, station.insert(0));
        station.shutdown();
        station.enrol(3, 9);
        Check.due("enrol(0, 0)", Stations.KEY, station.enrol(0, 0));
        Check.due("start() with issuer 3 alone", 1, station.start());
        for (int kind = 0; kind <= 2; kind++) {
            Check.due("validity of kind " + kind, 0, station.certificate(0, kind, 6));
        }
        Check.due("validity of the station's own", 1, station.certificate(5, 3, 6));
        Check.due("insert after", WAIT, station.insert(0));
        Check.due("logon after", 0, station.logon(5));
        Check.newest(station, "after both", 15, 0, 50, 1, 0, -1, 2, 0, 5, 3, 0, 5, 16, 0, 50);
    }

    private static void enrolledAnewBetweenShutdownAndStart() {
        SecureEntry otherKey = Stations.upWith(Stations.OFFICER);
        Stations.giveGood(otherKey, 0, 5, 4);
        shutdownAndEnrol(otherKey, 0, Stations.KEY + 1);
        otherKey.start();
        Check.due("insert under another key", WAIT, otherKey.insert(0));
        Check.due("logon under another key", 0, otherKey.logon(5));
        otherKey.remove();
        Stations.giveGood(otherKey, 0, 5, 4);
        Check.due("insert when it is signed anew", 1, otherKey.insert(0));
        SecureEntry sameKey = Stations.upWith(Stations.OFFICER);
        shutdownAndEnrol(sameKey, 0, 0);
        Check.due("validity while struck off", 0, sameKey.certificate(5, 0, 6));
        Check.due("enrol(0, 77) again", 0, sameKey.enrol(0, Stations.KEY));
        sameKey.start();
        Check.due("logon under the same key", Stations.OFFICER, sameKey.logon(5));
    }

    /** Each certificate of a good token may have an issuer of its own; issuer 4 gave none. */
    private static void struckOffForOneCertificateAlone() {
        for (int struckOff = 1; struckOff <= 4; struckOff++) {
            SecureEntry station = Stations.upWith(Stations.OFFICER);
            station.shutdown();
            for (int issuer = 1; issuer <= 4; issuer++) {
                station.enrol(issuer, 100 * issuer);
            }
            Stations.certifyRightly(station, 1, 0, 1, 5, 0, Stations.ALWAYS);
            Stations.certifyRightly(station, 1, 1, 2, 5, 4, Stations.ALWAYS);
            Stations.certifyRightly(station, 1, 2, 3, 5, 300, Stations.ALWAYS);
            station.enrol(struckOff, 0);
            Check.due("start() without issuer " + struckOff, 4, station.start());
            Check.due("insert without issuer " + struckOff, struckOff == 4 ? 1 : WAIT, station.insert(1));
        }
    }

    /** An authorisation by finger needs neither the privilege's issuer nor the finger's any more. */
    private static void authorisationOutlastsItsGivers() {
        SecureEntry station = Stations.upWith(Stations.OFFICER);
        station.shutdown();
        station.enrol(1, 100);
        Stations.certifyRightly(station, 1, 0, 0, 5, 0, Stations.ALWAYS);
        Stations.certifyRightly(station, 1, 1, 1, 5, 7, Stations.ALWAYS);
        Stations.certifyRightly(station, 1, 2, 1, 5, 300, Stations.ALWAYS);
        station.start();
        station.insert(1);
        Check.due("finger", ENTER, station.finger(300));
        station.logon(5);
        shutdownAndEnrol(station, 1, 0);
        station.start();
        Check.due("validity of the privilege", 0, station.certificate(1, 1, 6));
        Check.due("insert", ENTER, station.insert(1));
        station.remove();
        Check.due("logon", 3, station.logon(1));
    }

    private static void noIssuerLeftForTheNextStart() {
        Refusal.due(Check.STATE, "start() when the last issuer is struck off", () -> {
            SecureEntry station = Stations.upWith(Stations.OFFICER);
            shutdownAndEnrol(station, 0, 0);
            return station;
        }, SecureEntry::start);
    }

    /** An officer is logged on, and token 0, holder 3, has just been taken out in the state ENTER. */
    private static SecureEntry unlockedBesideAnOfficer() {
        SecureEntry station = Stations.upWith(Stations.OFFICER);
        Stations.giveAuthorisation(station, 0, 3, 0, Stations.ALWAYS);
        station.insert(0);
        station.remove();
        return station;
    }

    private static void alarmBegins(SecureEntry station, String when, int time) {
        Stations.passTo(station, time - 1);
        Check.due("alarm a second before, " + when, 0, station.count(5));
        station.pass(1);
        Check.due("alarm " + when, 1, station.count(5));
    }

    /** UNTIL and the alarm time are numbers that unlocking sets: a new LATCH is for the next one. */
    private static void latchChangedWhileUnlocked() {
        for (int latch : new int[] {0, 1, 3, 1000}) {
            SecureEntry station = unlockedBesideAnOfficer();
            station.door(true);
            station.pass(2);
            station.configure(0, latch);
            Check.due("unlocked at 2, LATCH " + latch, 1, station.count(3));
            station.pass(2);
            Check.due("unlocked at 4, LATCH " + latch, 1, station.count(3));
            station.pass(1);
            Check.due("unlocked at 5, LATCH " + latch, 0, station.count(3));
            alarmBegins(station, "LATCH " + latch, 15);
        }
    }

    private static void silenceChangedWhileTheAlarmTimeRuns() {
        for (int silence : new int[] {0, 1, 1000}) {
            SecureEntry unlocked = unlockedBesideAnOfficer();
            unlocked.door(true);
            unlocked.configure(1, silence);
            alarmBegins(unlocked, "of an unlocking, SILENCE " + silence, 15);
            SecureEntry forced = Stations.upWith(Stations.OFFICER);
            forced.door(true);
            forced.configure(1, silence);
            alarmBegins(forced, "of a forced door, SILENCE " + silence, 10);
        }
    }

    /** Closed and opened again, the door takes the new SILENCE; the alarm may end by that. */
    private static void silenceChangedBehindAForcedDoor() {
        SecureEntry station = Stations.upWith(Stations.OFFICER);
        station.door(true);
        station.pass(12);
        Check.due("alarm at 12", 1, station.count(5));
        station.configure(1, 3);
        station.door(false);
        station.door(true);
        Check.due("alarm of the door opened again", 0, station.count(5));
        alarmBegins(station, "of the new SILENCE", 15);
        Check.log(station, "of both doors", 1, 0, -1, 10, 0, 50, 9, 0, -1, 14, 12, 50, 9, 12, -1);
    }

    /** THRESHOLD, CLASS and PERIOD count when the finger is read, not when the token goes in. */
    private static void fingerTakesTheNumbersOfItsOwnTime() {
        SecureEntry station = Stations.upWith(Stations.OFFICER);
        Stations.giveGood(station, 0, 5, 14);
        station.insert(0);
        station.configure(4, 0);
        station.configure(5, 2);
        station.configure(3, 7);
        station.pass(4);
        Check.due("finger of the very template", ENTER, station.finger(300));
        Check.certificate(station, 0, 3, 6, 5, 10, 4, 11, station.signature(3, 6, 5, 10, 4, 11), 1);
        SecureEntry strict = Stations.upWith(Stations.OFFICER);
        Stations.giveGood(strict, 0, 5, 14);
        strict.insert(0);
        strict.configure(4, 0);
        Check.due("finger that differs in a bit", WAIT, strict.finger(301));
    }

    private static void periodAndClassChangedAfterwards() {
        SecureEntry station = Stations.upWith(Stations.OFFICER);
        Stations.giveGood(station, 0, 5, 14);
        station.insert(0);
        station.finger(300);
        station.configure(3, 1);
        station.configure(5, 0);
        station.remove();
        station.pass(100);
        Check.certificate(station, 0, 3, 6, 5, 6, 0, 100, station.signature(3, 6, 5, 6, 0, 100), 1);
        Check.due("insert at 100", ENTER, station.insert(0));
        station.remove();
        station.pass(1);
        Check.due("insert at 101", 1, station.insert(0));
    }

    private static void waitChangedBetweenFingerAndEnter() {
        SecureEntry station = Stations.upWith(Stations.OFFICER);
        Stations.giveGood(station, 0, 5, 4);
        station.insert(0);
        station.pass(19);
        station.configure(2, 3);
        Check.due("finger at 19, WAIT 3", ENTER, station.finger(300));
        station.pass(2);
        Check.due("user state at 21", ENTER, station.count(1));
        station.pass(1);
        Check.due("user state at 22", WAIT, station.count(1));
        station.remove();
        Check.due("unlocked after that", 0, station.count(3));
        Check.newest(station, "after that", 14, 19, 50, 4, 19, 5, 7, 19, 5, 6, 22, 5);
    }

    private static void secondEntryOfAnInsertIntoAFullLog() {
        int[] left = {16, 13, 14};
        for (int entries = 14; entries <= 16; entries++) {
            SecureEntry station = Stations.up();
            Stations.giveAuthorisation(station, 0, 5, 0, Stations.ALWAYS);
            Stations.fillLog(station, entries);
            Check.due("insert into " + entries, ENTER, station.insert(0));
            Check.due("entries after that", left[entries - 14], station.count(7));
            Check.due("log alarm after that", entries == 14 ? 0 : 1, station.count(6));
            Check.newest(station, "after insert into " + entries, 9, 0, -1, 2, 0, 5, 7, 0, 5);
        }
    }

    /** Entry 6 is the 16th, and entry 11, seconds later in the same pass, the 17th. */
    private static void secondsOfOnePassIntoAFullLog() {
        SecureEntry station = Stations.upWith(Stations.GUARD, 30);
        Stations.giveGood(station, 0, 5, 4);
        station.insert(0);
        Stations.fillLog(station, 15);
        station.pass(1000);
        Check.due("entries after the pass", 13, station.count(7));
        Check.due("log alarm after the pass", 1, station.count(6));
        Check.newest(station, "after the pass", 9, 0, -1, 6, 20, 5, 11, 31, 50);
    }

    private static void archivedInTheMiddleOfAUse() {
        SecureEntry station = Stations.upWith(Stations.AUDITOR);
        Stations.giveGood(station, 0, 5, 4);
        Stations.fillLog(station, 16);
        station.insert(0);
        Check.due("log alarm before", 1, station.count(6));
        Check.due("archive()", 13, station.archive());
        Check.due("log alarm after", 0, station.count(6));
        station.finger(300);
        Check.log(station, "after archive and finger", 13, 0, 50, 4, 0, 5, 7, 0, 5);
    }

    /** The latch locks, the alarm sounds, a user waits too long and the administrator lapses at 20. */
    private static void allInOneSecond() {
        SecureEntry station = Stations.upWith(Stations.OFFICER);
        station.configure(0, 20);
        station.configure(1, 0);
        station.logoff();
        Stations.giveAuthorisation(station, 1, 7, Stations.GUARD, 19);
        Stations.giveGood(station, 0, 5, 4);
        station.logon(1);
        Check.due("override()", 20, station.override());
        station.insert(0);
        station.door(true);
        station.pass(19);
        Check.counts(station, "at 19", 1, 1, 1, 1, 1, 0, 0, 8, 19, 0, 1);
        station.pass(1);
        Check.counts(station, "at 20", 1, 3, 0, 0, 1, 1, 0, 10, 20, 0, 1);
        Check.newest(station, "at 20", 12, 0, 7, 2, 0, 5, 6, 20, 5, 11, 20, 7);
    }
}
