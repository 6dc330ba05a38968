import java.util.ArrayList;
import java.util.List;
import java.util.NoSuchElementException;

/**
 * The document said once more in the simplest way, without a thought for room or speed, so that
 * drawn runs can hold the class against it. It shares no code with the class.
 */
final class Model {
    private static final int[] HIGHEST = {3, 6, 99, 65535, 100000, 100000, 9972};

    /** Each certificate as its numbers: kind, issuer, holder, value, from, to, signature. */
    private final int[][][] tokens = new int[6][4][];
    private final int[] keys = {0, 0, 0, 0, 0, 0, 4711};
    private final int[] configuration = {5, 10, 20, 100, 2, 1};
    private final List<int[]> log = new ArrayList<>();
    private boolean logAlarm = false;
    private int time = 0;
    private boolean up = false;
    private String user = "IDLE";
    private int secondsInState = 0;
    private Integer outer = null;
    private Integer inner = null;
    private boolean administrator = false;
    private int until = 0;
    private int alarmTime = 0;
    private boolean open = false;

    String outcome(int which, int[] of) {
        try {
            return String.valueOf(make(which, of));
        } catch (RuntimeException thrown) {
            return thrown.getClass().getName();
        }
    }

    int keyOf(int issuer) {
        return keys[issuer];
    }

    private int make(int which, int[] of) {
        if (which >= 4 && which <= 12) {
            state(up);
        }
        switch (Calls.NAMES[which]) {
            case "signature": return signature(of);
            case "certify": return certify(of);
            case "enrol": return enrol(of[0], of[1]);
            case "start": return start();
            case "insert": return insert(of[0]);
            case "finger": return finger(of[0]);
            case "remove": return remove();
            case "logon": return logon(of[0]);
            case "logoff": return logoff();
            case "override": return override();
            case "archive": return archive();
            case "configure": return configure(of[0], of[1]);
            case "shutdown": return shutdown();
            case "door": return door((of[0] & 1) == 1);
            case "pass": return pass(of[0]);
            case "entry": return entry(of[0], of[1]);
            case "certificate": return certificate(of[0], of[1], of[2]);
            default: return count(of[0]);
        }
    }

    private static void state(boolean holds) {
        if (!holds) {
            throw new IllegalStateException();
        }
    }

    private static void argument(boolean holds) {
        if (!holds) {
            throw new IllegalArgumentException();
        }
    }

    private static void element(boolean holds) {
        if (!holds) {
            throw new NoSuchElementException();
        }
    }

    private static void supported(boolean holds) {
        if (!holds) {
            throw new UnsupportedOperationException();
        }
    }

    private static boolean inRange(int[] numbers, int first, int count) {
        for (int place = 0; place < count; place++) {
            if (numbers[first + place] < 0 || numbers[first + place] > HIGHEST[place]) {
                return false;
            }
        }
        return true;
    }

    private int signature(int[] of) {
        argument(inRange(of, 0, 6));
        return Stations.rightSignature(keys[of[1]], of[0], of[2], of[3], of[4], of[5]);
    }

    private int certify(int[] of) {
        element(of[0] >= 0 && of[0] <= 5);
        argument(inRange(of, 1, 7));
        state(!isIn(outer, of[0]) && !isIn(inner, of[0]));
        int before = tokens[of[0]][of[1]] == null ? 1 : 0;
        tokens[of[0]][of[1]] = new int[] {of[1], of[2], of[3], of[4], of[5], of[6], of[7]};
        return before;
    }

    private static boolean isIn(Integer reader, int token) {
        return reader != null && reader == token;
    }

    private int enrol(int issuer, int key) {
        argument(issuer >= 0 && issuer <= 5 && key >= 0 && key <= 9972);
        state(!up);
        int before = keys[issuer];
        keys[issuer] = key;
        return before;
    }

    private int start() {
        int enrolled = 0;
        for (int issuer = 0; issuer <= 5; issuer++) {
            enrolled += keys[issuer] > 0 ? 1 : 0;
        }
        state(!up && enrolled > 0 && outer == null && inner == null);
        up = true;
        become("IDLE");
        administrator = false;
        write(1, -1);
        return enrolled;
    }

    private void become(String state) {
        user = state;
        secondsInState = 0;
    }

    private void write(int kind, int holder) {
        if (log.size() == 16) {
            log.subList(0, 4).clear();
            logAlarm = true;
        }
        log.add(new int[] {kind, time, holder});
    }

    private int holderOf(int token) {
        return tokens[token][0] == null ? -1 : tokens[token][0][2];
    }

    private boolean valid(int[] certificate) {
        if (certificate == null) {
            return false;
        }
        int key = keys[certificate[1]];
        int right = Stations.rightSignature(key, certificate[0], certificate[2], certificate[3], certificate[4],
                certificate[5]);
        boolean roleTooHigh = (certificate[0] == 1 || certificate[0] == 3) && certificate[3] > 15;
        boolean byAnother = certificate[0] == 3 && certificate[1] != 6;
        boolean outOfTime = time < certificate[4] || time > certificate[5];
        return key > 0 && certificate[6] == right && !roleTooHigh && !byAnother && !outOfTime;
    }

    private boolean validAndOfOneHolder(int token, int... kinds) {
        for (int kind : kinds) {
            if (!valid(tokens[token][kind]) || tokens[token][kind][2] != holderOf(token)) {
                return false;
            }
        }
        return true;
    }

    private boolean authorised(int token) {
        return validAndOfOneHolder(token, 0, 3);
    }

    private int userNumber() {
        return List.of("IDLE", "FINGER", "ENTER", "WAIT").indexOf(user);
    }

    private int insert(int token) {
        element(token >= 0 && token <= 5);
        state(!isIn(outer, token) && !isIn(inner, token) && outer == null);
        outer = token;
        write(2, holderOf(token));
        if (authorised(token)) {
            become("ENTER");
            write(7, holderOf(token));
        } else if (validAndOfOneHolder(token, 0, 1, 2)) {
            become("FINGER");
        } else {
            become("WAIT");
            write(3, holderOf(token));
        }
        return userNumber();
    }

    private int finger(int sample) {
        state(user.equals("FINGER"));
        argument(sample >= 0 && sample <= 65535);
        int[][] of = tokens[outer];
        int differing = 0;
        for (int bit = 1; bit < 65536; bit *= 2) {
            differing += sample / bit % 2 == of[2][3] / bit % 2 ? 0 : 1;
        }
        if (differing > configuration[4]) {
            become("WAIT");
            write(5, holderOf(outer));
            return userNumber();
        }
        int clearance = of[1][3] / 4 > configuration[5] ? configuration[5] : of[1][3] / 4;
        int value = clearance * 4 + of[1][3] % 4;
        int to = time + configuration[3] > 100000 ? 100000 : time + configuration[3];
        int signature = Stations.rightSignature(4711, 3, of[1][2], value, time, to);
        of[3] = new int[] {3, 6, of[1][2], value, time, to, signature};
        write(4, holderOf(outer));
        become("ENTER");
        write(7, holderOf(outer));
        return userNumber();
    }

    private int remove() {
        state(outer != null);
        int token = outer;
        if (user.equals("ENTER")) {
            unlock();
        }
        if (user.equals("FINGER")) {
            write(8, holderOf(token));
        }
        outer = null;
        become("IDLE");
        return token;
    }

    private void unlock() {
        until = time + configuration[0];
        alarmTime = until + configuration[1];
    }

    private int role() {
        return administrator ? tokens[inner][3][3] % 4 : 0;
    }

    private int logon(int token) {
        element(token >= 0 && token <= 5);
        state(!isIn(outer, token) && !isIn(inner, token) && inner == null);
        inner = token;
        administrator = authorised(token) && tokens[token][3][3] % 4 > 0;
        write(administrator ? 10 : 16, holderOf(token));
        return role();
    }

    private int logoff() {
        state(inner != null);
        int token = inner;
        if (administrator) {
            write(11, holderOf(token));
        }
        administrator = false;
        inner = null;
        return token;
    }

    private int override() {
        state(administrator);
        supported(role() == 1);
        unlock();
        write(12, holderOf(inner));
        return until;
    }

    private int archive() {
        state(administrator);
        supported(role() == 2);
        int entries = log.size();
        log.clear();
        logAlarm = false;
        write(13, holderOf(inner));
        return entries;
    }

    private int configure(int which, int value) {
        state(administrator);
        supported(role() == 3);
        argument(which >= 0 && which <= 5);
        argument(value >= 0 && value <= (which == 5 ? 3 : which == 4 ? 16 : 1000));
        int before = configuration[which];
        configuration[which] = value;
        write(14, holderOf(inner));
        return before;
    }

    private int shutdown() {
        state(administrator);
        state(!open);
        supported(role() == 3);
        write(15, holderOf(inner));
        up = false;
        until = time;
        outer = null;
        inner = null;
        become("IDLE");
        administrator = false;
        return 1;
    }

    private int door(boolean opened) {
        int change = opened == open ? 0 : 1;
        if (opened && !open && time >= until) {
            write(9, -1);
            alarmTime = time + configuration[1];
        }
        open = opened;
        return change;
    }

    private int pass(int n) {
        argument(n >= 1 && n <= 1000 && time + n <= 100000);
        for (int second = 1; second <= n; second++) {
            time = time + 1;
            secondsInState = secondsInState + 1;
            boolean waits = user.equals("FINGER") || user.equals("ENTER");
            if (waits && secondsInState >= configuration[2]) {
                become("WAIT");
                write(6, holderOf(outer));
            }
            if (administrator && !valid(tokens[inner][3])) {
                administrator = false;
                write(11, holderOf(inner));
            }
        }
        return time;
    }

    private int entry(int index, int what) {
        element(index >= 0 && index < log.size());
        argument(what >= 0 && what <= 2);
        return log.get(index)[what];
    }

    private int certificate(int token, int kind, int what) {
        element(token >= 0 && token <= 5);
        argument(kind >= 0 && kind <= 3);
        argument(what >= 0 && what <= 6);
        int[] certificate = tokens[token][kind];
        element(certificate != null);
        return what == 6 ? (valid(certificate) ? 1 : 0) : certificate[what + 1];
    }

    private int count(int what) {
        argument(what >= 0 && what <= 10);
        boolean unlocked = time < until;
        int[] counts = {up ? 1 : 0, userNumber(), role(), unlocked ? 1 : 0, open ? 1 : 0,
            open && !unlocked && time >= alarmTime ? 1 : 0, logAlarm ? 1 : 0, log.size(), time,
            outer == null ? -1 : outer, inner == null ? -1 : inner};
        return counts[what];
    }
}
