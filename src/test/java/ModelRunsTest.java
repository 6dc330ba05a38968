import java.util.Arrays;
import java.util.Random;

/**
 * Runs drawn from fixed seeds, each call on the class and on the model: both must answer or throw
 * the same. Most runs begin with a station that is UP and tokens that are good or authorised, and
 * every other call is one that fits the state, for calls drawn blindly are refused too often.
 */
public final class ModelRunsTest {
    private static final int RUNS = 3000;
    private static final int CALLS = 500;
    private static final int[] ODD = {-1, 6, 7, 16, 17, 100, 1001, 9973, 65536, 100001,
        Integer.MIN_VALUE, Integer.MAX_VALUE};
    /** How often each call is drawn blindly, in the order of Calls.NAMES. */
    private static final int[] WEIGHTS = {2, 3, 2, 2, 5, 5, 4, 4, 3, 3, 2, 3, 1, 6, 12, 10, 6, 24};
    private static final int CERTIFY = 1;
    private static final int ENROL = 2;
    private static final int START = 3;
    private static final int INSERT = 4;
    private static final int FINGER = 5;
    private static final int REMOVE = 6;
    private static final int LOGON = 7;
    private static final int LOGOFF = 8;
    private static final int SHUTDOWN = 12;
    private static final int DOOR = 13;
    private static final int PASS = 14;
    private static final int COUNT = 17;

    private final Random drawn;
    private final SecureEntry station = new SecureEntry();
    private final Model model = new Model();
    private int made = 0;
    private String fault = "";

    private ModelRunsTest(int seed) {
        drawn = new Random(seed);
    }

    public static void main(String[] args) {
        for (int seed = 0; seed < RUNS; seed++) {
            String fault = new ModelRunsTest(seed).run();
            if (!fault.isEmpty()) {
                Check.tell("seed " + seed + ": " + fault);
            }
        }
        Check.end();
    }

    private String run() {
        if (drawn.nextInt(10) == 0) {
            goNearTheLastSecond();
        }
        if (drawn.nextInt(8) != 0) {
            prepare();
        }
        while (fault.isEmpty() && made < CALLS) {
            int which = drawn.nextBoolean() ? fitting() : blind();
            both(which, numbers(which));
        }
        return fault;
    }

    private void goNearTheLastSecond() {
        for (int turn = 0; turn < 99; turn++) {
            both(PASS, new int[] {1000});
        }
        both(PASS, new int[] {700 + drawn.nextInt(300)});
    }

    private void prepare() {
        both(ENROL, new int[] {drawn.nextInt(3), 1 + drawn.nextInt(9972)});
        both(ENROL, new int[] {3 + drawn.nextInt(3), 1 + drawn.nextInt(9972)});
        for (int token = 0; token < 6; token++) {
            both(CERTIFY, certificateNumbers(token, 0));
            both(CERTIFY, certificateNumbers(token, token < 3 ? 1 : 3));
            both(CERTIFY, certificateNumbers(token, 2));
        }
        both(START, new int[0]);
    }

    private void both(int which, int[] of) {
        if (!fault.isEmpty()) {
            return;
        }
        made++;
        String want = model.outcome(which, of);
        String got = Calls.outcome(station, which, of);
        if (!want.equals(got)) {
            fault = "call " + made + " " + Calls.text(which, of) + " came to " + got + ", due is " + want;
        }
    }

    private int modelCount(int what) {
        return Integer.parseInt(model.outcome(COUNT, new int[] {what}));
    }

    private int blind() {
        int left = drawn.nextInt(Arrays.stream(WEIGHTS).sum());
        int which = 0;
        while (left >= WEIGHTS[which]) {
            left -= WEIGHTS[which];
            which++;
        }
        return which;
    }

    private int fitting() {
        if (modelCount(0) == 0) {
            return drawn.nextInt(3) == 0 ? START : ENROL;
        }
        switch (drawn.nextInt(3)) {
            case 0: return fittingTheUser();
            case 1: return fittingTheAdministrator();
            default: return drawn.nextInt(3) == 0 ? DOOR : COUNT;
        }
    }

    private int fittingTheUser() {
        int[] calls = {INSERT, FINGER, REMOVE, REMOVE};
        return drawn.nextInt(4) == 0 ? PASS : calls[modelCount(1)];
    }

    private int fittingTheAdministrator() {
        int role = modelCount(2);
        if (role == 0) {
            return modelCount(10) == -1 ? LOGON : LOGOFF;
        }
        if (drawn.nextInt(4) == 0) {
            return LOGOFF;
        }
        return role == 3 && drawn.nextInt(6) == 0 ? SHUTDOWN : LOGOFF + role;
    }

    private int[] numbers(int which) {
        int[] of = plainNumbers(which);
        if (drawn.nextInt(40) == 0 && of.length > 0) {
            of[drawn.nextInt(of.length)] = ODD[drawn.nextInt(ODD.length)];
        }
        return of;
    }

    /** Of certify; the holder goes with the token and a signature is mostly right. */
    private int[] certificateNumbers(int token, int kind) {
        int issuer = kind == 3 && drawn.nextInt(10) != 0 ? 6 : issuer();
        int holder = drawn.nextInt(20) == 0 ? 99 : token + 10;
        int value = kind == 2 ? 65535 * drawn.nextInt(2) : drawn.nextInt(20) == 0 ? 16 : drawn.nextInt(16);
        int now = modelCount(8);
        int from = drawn.nextInt(6) == 0 ? Math.min(100000, now + drawn.nextInt(20)) : now / 2;
        int to = drawn.nextInt(2) == 0 ? Math.min(100000, now + drawn.nextInt(200)) : 100000;
        int right = Stations.rightSignature(model.keyOf(issuer), kind, holder, value, from, to);
        int signature = drawn.nextInt(25) == 0 ? drawn.nextInt(9973) : right;
        return new int[] {token, kind, issuer, holder, value, from, to, signature};
    }

    /** Mostly one that is enrolled, or the station. */
    private int issuer() {
        int issuer = drawn.nextInt(7);
        return model.keyOf(issuer) == 0 && drawn.nextInt(15) != 0 ? 6 : issuer;
    }

    private int[] plainNumbers(int which) {
        int[] certificate = certificateNumbers(drawn.nextInt(6), drawn.nextInt(4));
        switch (Calls.NAMES[which]) {
            case "signature": return Arrays.copyOfRange(certificate, 1, 7);
            case "certify": return certificate;
            case "enrol": return new int[] {drawn.nextInt(6), drawn.nextInt(5) == 0 ? 0 : 1 + drawn.nextInt(9972)};
            case "finger": return new int[] {sample()};
            case "configure": return new int[] {drawn.nextInt(6), drawn.nextInt(4) * drawn.nextInt(7)};
            case "pass": return new int[] {drawn.nextInt(8) == 0 ? 1 + drawn.nextInt(120) : 1 + drawn.nextInt(6)};
            case "entry": return new int[] {drawn.nextInt(17), drawn.nextInt(3)};
            case "certificate": return new int[] {drawn.nextInt(6), drawn.nextInt(4), drawn.nextInt(7)};
            case "count": return new int[] {drawn.nextInt(11)};
            default: return new int[] {drawn.nextInt(6)};
        }
    }

    /** All bits the same but for a few, as the templates' bits are. */
    private int sample() {
        int sample = 65535 * drawn.nextInt(2);
        for (int flips = drawn.nextInt(4); flips > 0; flips--) {
            sample ^= 1 << drawn.nextInt(16);
        }
        return sample;
    }
}
