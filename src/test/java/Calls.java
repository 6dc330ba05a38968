/** The calls of the face by number, so that a run of them can be drawn. */
final class Calls {
    static final String[] NAMES = {"signature", "certify", "enrol", "start", "insert", "finger", "remove", "logon",
        "logoff", "override", "archive", "configure", "shutdown", "door", "pass", "entry", "certificate", "count"};
    static final int[] PARAMETERS = {6, 8, 2, 0, 1, 1, 0, 1, 0, 0, 0, 2, 0, 1, 1, 2, 3, 1};

    private Calls() {
    }

    static String text(int which, int[] of) {
        StringBuilder said = new StringBuilder(NAMES[which]).append('(');
        for (int place = 0; place < PARAMETERS[which]; place++) {
            said.append(place == 0 ? "" : ", ").append(of[place]);
        }
        return said.append(')').toString();
    }

    /** A door's number is odd for open. */
    static int make(SecureEntry on, int which, int[] of) {
        switch (which) {
            case 0: return on.signature(of[0], of[1], of[2], of[3], of[4], of[5]);
            case 1: return on.certify(of[0], of[1], of[2], of[3], of[4], of[5], of[6], of[7]);
            case 2: return on.enrol(of[0], of[1]);
            case 3: return on.start();
            case 4: return on.insert(of[0]);
            case 5: return on.finger(of[0]);
            case 6: return on.remove();
            case 7: return on.logon(of[0]);
            case 8: return on.logoff();
            case 9: return on.override();
            case 10: return on.archive();
            case 11: return on.configure(of[0], of[1]);
            case 12: return on.shutdown();
            case 13: return on.door((of[0] & 1) == 1);
            case 14: return on.pass(of[0]);
            case 15: return on.entry(of[0], of[1]);
            case 16: return on.certificate(of[0], of[1], of[2]);
            default: return on.count(of[0]);
        }
    }

    static String outcome(SecureEntry on, int which, int[] of) {
        try {
            return String.valueOf(make(on, which, of));
        } catch (RuntimeException thrown) {
            return thrown.getClass().getName();
        }
    }
}
