import java.util.Arrays;
import java.util.List;
import java.util.Random;

/**
 * Runs drawn from fixed seeds, each on two objects of which one is spared the calls that throw:
 * both must look the same in the end. Few calls are made, because an object is promised for 512.
 */
public final class RandomRunsTest {
    private static final int RUNS = 3000;
    private static final int CALLS = 200;
    private static final int[] ODD = {-1, 6, 7, 16, 100, 65536, 100001, Integer.MIN_VALUE, Integer.MAX_VALUE};

    private static final List<Class<? extends RuntimeException>> NONE = List.of();
    private static final List<List<Class<? extends RuntimeException>>> DECLARED = List.of(
            List.of(Check.ARGUMENT), List.of(Check.NO_ELEMENT, Check.ARGUMENT, Check.STATE),
            List.of(Check.ARGUMENT, Check.STATE), List.of(Check.STATE), List.of(Check.STATE, Check.NO_ELEMENT),
            List.of(Check.STATE, Check.ARGUMENT), List.of(Check.STATE), List.of(Check.STATE, Check.NO_ELEMENT),
            List.of(Check.STATE), List.of(Check.STATE, Check.UNSUPPORTED), List.of(Check.STATE, Check.UNSUPPORTED),
            List.of(Check.STATE, Check.UNSUPPORTED, Check.ARGUMENT), List.of(Check.STATE, Check.UNSUPPORTED),
            NONE, List.of(Check.ARGUMENT), List.of(Check.NO_ELEMENT, Check.ARGUMENT),
            List.of(Check.NO_ELEMENT, Check.ARGUMENT), List.of(Check.ARGUMENT));

    public static void main(String[] args) {
        for (int run = 0; run < RUNS; run++) {
            twinRun(run);
        }
        Check.end();
    }

    private static void twinRun(int seed) {
        Random drawn = new Random(seed);
        SecureEntry tried = prepared();
        SecureEntry spared = prepared();
        for (int made = 0; made < CALLS; made++) {
            int which = drawn.nextInt(DECLARED.size());
            int[] of = numbers(drawn, which);
            String call = "seed " + seed + ", call " + made + " (" + which + ") " + Arrays.toString(of);
            try {
                int answer = call(tried, which, of);
                Check.due(call, answer, call(spared, which, of));
            } catch (RuntimeException thrown) {
                if (!DECLARED.get(which).contains(thrown.getClass())) {
                    Check.tell(call + " throws " + thrown);
                }
            }
        }
        Check.same("seed " + seed, Stations.wholeView(spared), Stations.wholeView(tried));
    }

    private static SecureEntry prepared() {
        SecureEntry station = Stations.up();
        for (int role = 0; role < 3; role++) {
            Stations.giveAuthorisation(station, role, 20 + role, 1 + role, 3000);
        }
        Stations.giveGood(station, 3, 30, 9);
        return station;
    }

    private static int[] numbers(Random drawn, int which) {
        int[] of = new int[8];
        boolean certificate = which <= 1;
        for (int place = 0; place < of.length; place++) {
            of[place] = drawn.nextInt(certificate ? 4 : 6);
            if (drawn.nextInt(certificate ? 50 : 12) == 0) {
                of[place] = ODD[drawn.nextInt(ODD.length)];
            }
        }
        if (which == 5 && drawn.nextBoolean()) {
            of[0] = Stations.TEMPLATE ^ 1;
        }
        return of;
    }

    private static int call(SecureEntry on, int which, int[] of) {
        switch (which) {
            case 0: return on.signature(of[0], of[1], of[2], of[3], of[4], of[5]);
            case 1: return on.certify(4 + of[0] % 2, of[1], of[2], of[3], of[4], of[5], of[6], of[7]);
            case 2: return on.enrol(of[0], of[1]);
            case 3: return on.start();
            case 4: return on.insert(of[0]);
            case 5: return on.finger(of[0]);
            case 6: return on.remove();
            case 7: return on.logon(of[0]);
            case 8: return on.logoff();
            case 9: return on.override();
            case 10: return on.archive();
            case 11: return on.configure(of[0], of[1]);
            case 12: return on.shutdown();
            case 13: return on.door(of[0] % 2 == 0);
            case 14: return on.pass(of[0]);
            case 15: return on.entry(of[0], of[1]);
            case 16: return on.certificate(of[0], of[1], of[2]);
            default: return on.count(of[0]);
        }
    }
}
