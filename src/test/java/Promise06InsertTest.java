public final class Promise06InsertTest {
    private static final int FINGER = 1;
    private static final int ENTER = 2;
    private static final int WAIT = 3;

    public static void main(String[] args) {
        authorised();
        authorisedBeforeGood();
        good();
        neither();
        everyTokenWithoutCertificates();
        goodNeedsEachOfItsCertificates();
        goodNeedsOneHolder();
        authorisedNeedsEachOfItsCertificates();
        authorisedNeedsOneHolder();
        neitherNeedsTheOthersCertificates();
        certificatesAtFromAndTo();
        valuesAboveFifteen();
        noTokenOfThatNumber();
        tokensInReaders();
        readerFilled();
        refusesInOrder();
        whileDown();
        Check.end();
    }

    /** "entry 2; it is AUTHORISED: ENTER, entry 7". */
    private static void authorised() {
        SecureEntry station = Stations.up();
        Stations.giveAuthorisation(station, 3, 44, 0, Stations.ALWAYS);
        station.pass(2);
        Check.due("insert of an authorised token", ENTER, station.insert(3));
        Check.counts(station, "after insert", 1, 2, 0, 0, 0, 0, 0, 3, 2, 3, -1);
        Check.log(station, "after insert", 1, 0, -1, 2, 2, 44, 7, 2, 44);
    }

    private static void authorisedBeforeGood() {
        SecureEntry station = Stations.up();
        Stations.giveGood(station, 0, 5, 9);
        Stations.certifyRightly(station, 0, 3, 6, 5, 0, Stations.ALWAYS);
        Check.due("insert of a token that is both", ENTER, station.insert(0));
        Check.log(station, "after insert", 1, 0, -1, 2, 0, 5, 7, 0, 5);
    }

    /** "else it is GOOD: FINGER", and no entry but 2. */
    private static void good() {
        SecureEntry station = Stations.up();
        Stations.giveGood(station, 0, 99, 9);
        Check.due("insert of a good token", FINGER, station.insert(0));
        Check.counts(station, "after insert", 1, 1, 0, 0, 0, 0, 0, 2, 0, 0, -1);
        Check.log(station, "after insert", 1, 0, -1, 2, 0, 99);
    }

    /** "else WAIT, entry 3". */
    private static void neither() {
        SecureEntry station = Stations.up();
        Stations.certifyRightly(station, 4, 0, 0, 0, 0, Stations.ALWAYS);
        station.pass(1);
        Check.due("insert of a token with an ID alone", WAIT, station.insert(4));
        Check.counts(station, "after insert", 1, 3, 0, 0, 0, 0, 0, 3, 1, 4, -1);
        Check.log(station, "after insert", 1, 0, -1, 2, 1, 0, 3, 1, 0);
    }

    /** "Holders are those of the ID certificate ... (-1 without one)". */
    private static void everyTokenWithoutCertificates() {
        for (int token = 0; token < 6; token++) {
            SecureEntry station = Stations.up();
            Check.due("insert(" + token + ")", WAIT, station.insert(token));
            Check.counts(station, "after insert", 1, 3, 0, 0, 0, 0, 0, 3, 0, token, -1);
            Check.log(station, "after insert", 1, 0, -1, 2, 0, -1, 3, 0, -1);
        }
    }

    private static SecureEntry withGood() {
        SecureEntry station = Stations.up();
        Stations.giveGood(station, 0, 5, 9);
        return station;
    }

    private static SecureEntry withAuthorised() {
        SecureEntry station = Stations.up();
        Stations.giveAuthorisation(station, 0, 5, 0, Stations.ALWAYS);
        return station;
    }

    private static void spoilSignature(SecureEntry station, int kind) {
        int[] of = new int[6];
        for (int what = 0; what < of.length; what++) {
            of[what] = station.certificate(0, kind, what);
        }
        station.certify(0, kind, of[0], of[1], of[2], of[3], of[4], (of[5] + 1) % 9973);
    }

    /** "GOOD if its ID, privilege and finger certificates are valid and have one holder". */
    private static void goodNeedsEachOfItsCertificates() {
        for (int kind = 0; kind < 3; kind++) {
            SecureEntry missing = Stations.up();
            for (int other = 0; other < 3; other++) {
                if (other != kind) {
                    Stations.certifyRightly(missing, 0, other, 0, 5, 4, Stations.ALWAYS);
                }
            }
            Check.due("insert without kind " + kind, WAIT, missing.insert(0));
            int holder = kind == 0 ? -1 : 5;
            Check.log(missing, "without kind " + kind, 1, 0, -1, 2, 0, holder, 3, 0, holder);
            SecureEntry spoilt = withGood();
            spoilSignature(spoilt, kind);
            Check.due("insert with a wrong signature of kind " + kind, WAIT, spoilt.insert(0));
            Check.newest(spoilt, "with a wrong signature", 2, 0, 5, 3, 0, 5);
            SecureEntry unknown = withGood();
            Stations.certifyRightly(unknown, 0, kind, 1, 5, 4, Stations.ALWAYS);
            Check.due("insert with an unknown issuer of kind " + kind, WAIT, unknown.insert(0));
            SecureEntry byStation = withGood();
            Stations.certifyRightly(byStation, 0, kind, 6, 5, 4, Stations.ALWAYS);
            Check.due("insert with kind " + kind + " by the station", FINGER, byStation.insert(0));
        }
    }

    private static void goodNeedsOneHolder() {
        for (int kind = 0; kind < 3; kind++) {
            SecureEntry station = withGood();
            Stations.certifyRightly(station, 0, kind, 0, 6, 9, Stations.ALWAYS);
            Check.due("insert with another holder of kind " + kind, WAIT, station.insert(0));
            int holder = kind == 0 ? 6 : 5;
            Check.newest(station, "with another holder", 2, 0, holder, 3, 0, holder);
        }
    }

    /** "AUTHORISED if its ID and authorisation certificates are valid and have one holder". */
    private static void authorisedNeedsEachOfItsCertificates() {
        for (int kind = 0; kind < 4; kind += 3) {
            SecureEntry missing = Stations.up();
            int other = 3 - kind;
            Stations.certifyRightly(missing, 0, other, 6, 5, 0, Stations.ALWAYS);
            Check.due("insert with kind " + other + " alone", WAIT, missing.insert(0));
            SecureEntry spoilt = withAuthorised();
            spoilSignature(spoilt, kind);
            Check.due("insert with a wrong signature of kind " + kind, WAIT, spoilt.insert(0));
            SecureEntry unknown = withAuthorised();
            Stations.certifyRightly(unknown, 0, kind, 1, 5, 0, Stations.ALWAYS);
            Check.due("insert with an unknown issuer of kind " + kind, WAIT, unknown.insert(0));
            SecureEntry enrolled = withAuthorised();
            Stations.certifyRightly(enrolled, 0, kind, 0, 5, 0, Stations.ALWAYS);
            int due = kind == 3 ? WAIT : ENTER;
            Check.due("insert with kind " + kind + " by an enrolled issuer", due, enrolled.insert(0));
        }
    }

    private static void authorisedNeedsOneHolder() {
        for (int kind = 0; kind < 4; kind += 3) {
            SecureEntry station = withAuthorised();
            Stations.certifyRightly(station, 0, kind, 6, 6, 0, Stations.ALWAYS);
            Check.due("insert with another holder of kind " + kind, WAIT, station.insert(0));
        }
    }

    private static void neitherNeedsTheOthersCertificates() {
        SecureEntry good = withGood();
        good.certify(0, 3, 6, 5, 0, 0, 100, 0);
        Check.due("insert of a good token, its authorisation not valid", FINGER, good.insert(0));
        SecureEntry other = withGood();
        Stations.certifyRightly(other, 0, 3, 6, 6, 0, Stations.ALWAYS);
        Check.due("insert of a good token, its authorisation another's", FINGER, other.insert(0));
        SecureEntry authorised = withAuthorised();
        authorised.certify(0, 1, 1, 9, 65535, 5, 4, 0);
        authorised.certify(0, 2, 1, 8, 65535, 5, 4, 0);
        Check.due("insert of an authorised token, the rest not valid", ENTER, authorised.insert(0));
    }

    /** "the time is from FROM to TO", both of them still within. */
    private static void certificatesAtFromAndTo() {
        int[] times = {29, 30, 33, 34};
        for (int kind = 0; kind < 4; kind++) {
            int within = kind == 3 ? ENTER : FINGER;
            int[] due = {WAIT, within, within, WAIT};
            for (int turn = 0; turn < times.length; turn++) {
                SecureEntry station = kind == 3 ? withAuthorised() : withGood();
                Stations.certifyFrom(station, 0, kind, kind == 3 ? 6 : 0, 5, 1, 30, 33);
                Stations.passTo(station, times[turn]);
                Check.due("insert at " + times[turn] + ", kind " + kind, due[turn], station.insert(0));
            }
        }
        SecureEntry last = withGood();
        Stations.certifyFrom(last, 0, 0, 0, 5, 1, 100000, 100000);
        Stations.passTo(last, 99999);
        Check.due("insert at 99999", WAIT, last.insert(0));
        last.remove();
        last.pass(1);
        Check.due("insert at 100000", FINGER, last.insert(0));
    }

    /** "(one with a value above 15 is not valid)". */
    private static void valuesAboveFifteen() {
        int[] values = {15, 16, 65535};
        for (int turn = 0; turn < values.length; turn++) {
            SecureEntry good = withGood();
            Stations.certifyRightly(good, 0, 1, 0, 5, values[turn], Stations.ALWAYS);
            Check.due("insert with the privilege " + values[turn], turn == 0 ? FINGER : WAIT, good.insert(0));
            SecureEntry authorised = withAuthorised();
            Stations.certifyRightly(authorised, 0, 3, 6, 5, values[turn], Stations.ALWAYS);
            Check.due("insert with the authorisation " + values[turn], turn == 0 ? ENTER : WAIT,
                    authorised.insert(0));
            SecureEntry id = withGood();
            Stations.certifyRightly(id, 0, 0, 0, 5, values[turn], Stations.ALWAYS);
            Check.due("insert with the ID " + values[turn], FINGER, id.insert(0));
            SecureEntry finger = withGood();
            Stations.certifyRightly(finger, 0, 2, 0, 5, values[turn], Stations.ALWAYS);
            Check.due("insert with the template " + values[turn], FINGER, finger.insert(0));
        }
    }

    /** "NoSuchElementException: token not 0 .. 5." */
    private static void noTokenOfThatNumber() {
        Refusal.outside(0, 5, Check.NO_ELEMENT, "insert", Stations::up, SecureEntry::insert);
    }

    /** "IllegalStateException: it is in a reader". */
    private static void tokensInReaders() {
        Refusal.due(Check.STATE, "insert of the inner reader's token", () -> Stations.upWith(Stations.GUARD),
                station -> station.insert(Stations.ADMINISTRATOR));
        Refusal.due(Check.STATE, "insert of the outer reader's token", () -> Stations.upForFinger(4),
                station -> station.insert(0));
        SecureEntry station = Stations.upWith(Stations.GUARD);
        Check.due("insert beside a filled inner reader", WAIT, station.insert(0));
        Check.counts(station, "with both readers filled", 1, 3, 1, 0, 0, 0, 0, 4, 0, 0, 5);
    }

    /** "or one is in the outer reader". */
    private static void readerFilled() {
        Refusal.due(Check.STATE, "insert in the state FINGER", () -> Stations.upForFinger(4),
                station -> station.insert(1));
        Refusal.due(Check.STATE, "insert in the state ENTER", Stations::upForEntry, station -> station.insert(1));
        Refusal.due(Check.STATE, "insert in the state WAIT", Stations::upForRemoval, station -> station.insert(1));
    }

    private static void refusesInOrder() {
        Refusal.outside(0, 5, Check.NO_ELEMENT, "insert into a filled reader", Stations::upForEntry,
                SecureEntry::insert);
    }

    private static void whileDown() {
        Refusal.outside(0, 5, Check.STATE, "insert while DOWN", Stations::enrolled, SecureEntry::insert);
        Refusal.due(Check.STATE, "insert(0) while DOWN", Stations::enrolled, station -> station.insert(0));
        Refusal.due(Check.STATE, "insert(0) after shutdown", Stations::afterShutdown, station -> station.insert(0));
    }
}
