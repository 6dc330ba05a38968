import java.util.function.Supplier;

public final class Promise03CertifyTest {
    /** Of the numbers behind the token. */
    private static final int[] HIGHEST = {3, 6, 99, 65535, 100000, 100000, 9972};
    private static final int[] MIDDLING = {1, 3, 50, 1000, 20, 3000, 4000};

    public static void main(String[] args) {
        oneIfItHadNoneElseZero();
        inPlaceOfTheOneThatItHas();
        leavesTheOthersAlone();
        takesEveryNumberAtItsEdges();
        takesEveryToken();
        neitherTimesNorSignatureAreJudged();
        noTokenOfThatNumber();
        numbersOutOfRange();
        tokensInReaders();
        refusesInOrder();
        isForEveryState();
        Check.end();
    }

    private static int certify(SecureEntry station, int token, int[] of) {
        return station.certify(token, of[0], of[1], of[2], of[3], of[4], of[5], of[6]);
    }

    private static void stored(SecureEntry station, int token, int[] of) {
        Check.certificate(station, token, of[0], of[1], of[2], of[3], of[4], of[5], of[6]);
    }

    /** "1 if it had none, else 0". */
    private static void oneIfItHadNoneElseZero() {
        for (int token = 0; token < 6; token++) {
            SecureEntry station = new SecureEntry();
            for (int kind = 0; kind < 4; kind++) {
                int[] of = Edges.with(MIDDLING, 0, kind);
                Check.due("the first of kind " + kind, 1, certify(station, token, of));
                Check.due("the second of kind " + kind, 0, certify(station, token, of));
                Check.due("the third of kind " + kind, 0, certify(station, token, of));
            }
        }
    }

    private static void inPlaceOfTheOneThatItHas() {
        SecureEntry station = new SecureEntry();
        for (int kind = 0; kind < 4; kind++) {
            certify(station, 2, Edges.with(MIDDLING, 0, kind));
            int[] second = {kind, 6, 20, 30 + kind, 50, 40, 60};
            certify(station, 2, second);
            stored(station, 2, second);
        }
    }

    private static void leavesTheOthersAlone() {
        SecureEntry station = new SecureEntry();
        for (int place = 0; place < 24; place++) {
            int[] of = {place % 4, place % 7, place, place + 100, place + 200, place + 300, place + 400};
            Check.due("certify at place " + place, 1, certify(station, place / 4, of));
        }
        certify(station, 3, MIDDLING);
        for (int place = 0; place < 24; place++) {
            int[] of = {place % 4, place % 7, place, place + 100, place + 200, place + 300, place + 400};
            stored(station, place / 4, place == 13 ? MIDDLING : of);
        }
    }

    private static void takesEveryNumberAtItsEdges() {
        for (int place = 0; place < HIGHEST.length; place++) {
            for (int number : Edges.inside(0, HIGHEST[place])) {
                SecureEntry station = new SecureEntry();
                int[] of = Edges.with(MIDDLING, place, number);
                Check.due("certify with " + number + " at place " + place, 1, certify(station, 1, of));
                stored(station, 1, of);
            }
        }
        SecureEntry station = new SecureEntry();
        Check.due("certify with all the highest numbers", 1, certify(station, 5, HIGHEST));
        stored(station, 5, HIGHEST);
        Check.due("certify with all the lowest numbers", 1, certify(station, 0, new int[7]));
        stored(station, 0, new int[7]);
    }

    private static void takesEveryToken() {
        for (int token : Edges.inside(0, 5)) {
            SecureEntry station = new SecureEntry();
            Check.due("certify of token " + token, 1, certify(station, token, MIDDLING));
            stored(station, token, MIDDLING);
        }
    }

    /** The range is all that is asked of a number: wrong signatures and FROM above TO are taken. */
    private static void neitherTimesNorSignatureAreJudged() {
        SecureEntry station = Stations.enrolled();
        Check.due("certify with FROM above TO", 1, station.certify(0, 0, 0, 1, 2, 100000, 0, 3));
        Check.certificate(station, 0, 0, 0, 1, 2, 100000, 0, 3, 0);
        int wrong = station.signature(0, 0, 1, 2, 0, 100) == 5 ? 6 : 5;
        Check.due("certify with a wrong signature", 0, station.certify(0, 0, 0, 1, 2, 0, 100, wrong));
        Check.certificate(station, 0, 0, 0, 1, 2, 0, 100, wrong, 0);
        Check.due("certify with an unknown issuer", 1, station.certify(0, 1, 4, 1, 65535, 0, 100, 0));
        Check.certificate(station, 0, 1, 4, 1, 65535, 0, 100, 0, 0);
    }

    /** A station that has a certificate to lose on every token, while tokens 1 and 2 are in the readers. */
    private static SecureEntry busy() {
        SecureEntry station = Stations.up();
        for (int token = 0; token < 6; token++) {
            certify(station, token, MIDDLING);
        }
        station.insert(1);
        station.logon(2);
        return station;
    }

    /** "NoSuchElementException: token not 0 .. 5." */
    private static void noTokenOfThatNumber() {
        Refusal.outside(0, 5, Check.NO_ELEMENT, "certify of a token", Promise03CertifyTest::busy,
                (station, token) -> certify(station, token, MIDDLING));
    }

    /** "IllegalArgumentException: a number out of range (signature 0 .. 9972)." */
    private static void numbersOutOfRange() {
        for (int at = 0; at < HIGHEST.length; at++) {
            int place = at;
            Refusal.outside(0, HIGHEST[place], Check.ARGUMENT, "certify, place " + place,
                    Promise03CertifyTest::busy,
                    (station, number) -> certify(station, 0, Edges.with(MIDDLING, place, number)));
        }
    }

    /** "IllegalStateException: the token is in a reader." */
    private static void tokensInReaders() {
        for (int each = 0; each < 4; each++) {
            int[] of = Edges.with(new int[7], 0, each);
            Refusal.due(Check.STATE, "certify in the outer reader", Promise03CertifyTest::busy,
                    station -> certify(station, 1, of));
            Refusal.due(Check.STATE, "certify in the inner reader", Promise03CertifyTest::busy,
                    station -> certify(station, 2, of));
        }
        SecureEntry station = busy();
        Check.due("certify of a token in no reader", 0, certify(station, 0, MIDDLING));
        station.remove();
        station.logoff();
        Check.due("certify after remove", 0, certify(station, 1, MIDDLING));
        Check.due("certify after logoff", 0, certify(station, 2, MIDDLING));
    }

    private static void refusesInOrder() {
        Supplier<SecureEntry> busy = Promise03CertifyTest::busy;
        for (int at = 0; at < HIGHEST.length; at++) {
            int[] wrong = Edges.with(MIDDLING, at, HIGHEST[at] + 1);
            Refusal.due(Check.NO_ELEMENT, "certify of token 6, wrong at " + at, busy,
                    station -> certify(station, 6, wrong));
            Refusal.due(Check.NO_ELEMENT, "certify of token -1, wrong at " + at, busy,
                    station -> certify(station, -1, wrong));
            Refusal.due(Check.ARGUMENT, "certify in the outer reader, wrong at " + at, busy,
                    station -> certify(station, 1, wrong));
            Refusal.due(Check.ARGUMENT, "certify in the inner reader, wrong at " + at, busy,
                    station -> certify(station, 2, wrong));
        }
    }

    private static void isForEveryState() {
        Check.due("certify of a new object", 1, certify(new SecureEntry(), 0, MIDDLING));
        Check.due("certify while UP", 1, certify(Stations.up(), 0, MIDDLING));
        Check.due("certify after shutdown", 1, certify(Stations.afterShutdown(), 0, MIDDLING));
        SecureEntry last = new SecureEntry();
        Stations.passTo(last, 100000);
        Check.due("certify at 100000", 1, certify(last, 0, MIDDLING));
    }
}
