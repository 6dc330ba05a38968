import java.util.NoSuchElementException;

/** The entry station of an enclave, as ../shared/DOC.md promises it. */
public final class SecureEntry {
    private static final int NONE = -1;
    private static final int TOKENS = 6;
    private static final int LAST_HOLDER = 99;
    private static final int LAST_VALUE = 65535;
    private static final int LAST_TIME = 100000;
    private static final int LONGEST_PASS = 1000;

    private static final int ISSUERS = 6;
    private static final int STATION = 6;
    private static final int STATION_KEY = 4711;
    private static final int MODULUS = 9973;

    private static final int LATCH = 0;
    private static final int SILENCE = 1;
    private static final int WAIT = 2;
    private static final int PERIOD = 3;
    private static final int THRESHOLD = 4;
    private static final int CLASS = 5;
    private static final int[] FIRST_CONFIGURATION = {5, 10, 20, 100, 2, 1};
    private static final int[] HIGHEST_CONFIGURATION = {1000, 1000, 1000, 1000, 16, 3};

    private static final int IDLE = 0;
    private static final int AWAITING_FINGER = 1;
    private static final int ENTER = 2;
    private static final int AWAITING_REMOVAL = 3;

    private static final int NO_ROLE = 0;
    private static final int GUARD = 1;
    private static final int AUDITOR = 2;
    private static final int OFFICER = 3;

    private final int[] configuration;
    private final int[] keys;
    private final Certificate[] certificates;
    private final Log log;
    private int time;
    private boolean up;
    private int userState;
    private int userStateSince;
    private int outerToken;
    private int innerToken;
    private int administratorRole;
    private int unlockedUntil;
    private int alarmTime;
    private boolean doorOpen;

    public SecureEntry() {
        configuration = FIRST_CONFIGURATION.clone();
        keys = new int[ISSUERS + 1];
        keys[STATION] = STATION_KEY;
        certificates = new Certificate[TOKENS * Certificate.KINDS];
        log = new Log();
        userState = IDLE;
        outerToken = NONE;
        innerToken = NONE;
        administratorRole = NO_ROLE;
    }

    public int signature(int kind, int issuer, int holder, int value, int from, int to)
            throws IllegalArgumentException {
        if (!areCertificateNumbers(kind, issuer, holder, value, from, to)) {
            throw new IllegalArgumentException();
        }
        return isEnrolled(issuer) ? rightSignature(kind, issuer, holder, value, from, to) : 0;
    }

    public int certify(int token, int kind, int issuer, int holder, int value, int from, int to, int signature)
            throws NoSuchElementException, IllegalArgumentException, IllegalStateException {
        requireToken(token);
        if (!areCertificateNumbers(kind, issuer, holder, value, from, to)
                || !isWithin(signature, 0, MODULUS - 1)) {
            throw new IllegalArgumentException();
        }
        requireInNoReader(token);
        boolean hadNone = certificateOf(token, kind) == null;
        give(token, new Certificate(kind, issuer, holder, value, from, to, signature));
        return hadNone ? 1 : 0;
    }

    public int enrol(int issuer, int key) throws IllegalArgumentException, IllegalStateException {
        if (!isWithin(issuer, 0, ISSUERS - 1) || !isWithin(key, 0, MODULUS - 1)) {
            throw new IllegalArgumentException();
        }
        if (up) {
            throw new IllegalStateException();
        }
        int before = keys[issuer];
        keys[issuer] = key;
        return before;
    }

    public int start() throws IllegalStateException {
        int enrolled = enrolledIssuers();
        if (up || enrolled == 0 || outerToken != NONE || innerToken != NONE) {
            throw new IllegalStateException();
        }
        up = true;
        becomeUserState(IDLE);
        administratorRole = NO_ROLE;
        log.write(Log.STARTED, time, NONE);
        return enrolled;
    }

    public int insert(int token) throws IllegalStateException, NoSuchElementException {
        requireUp();
        requireToken(token);
        requireInNoReader(token);
        requireEmpty(outerToken);
        outerToken = token;
        writeAbout(token, Log.TAKEN_IN);
        if (isAuthorised(token)) {
            allowEntry();
        } else if (isGood(token)) {
            becomeUserState(AWAITING_FINGER);
        } else {
            turnAway(Log.REFUSED);
        }
        return userState;
    }

    public int finger(int sample) throws IllegalStateException, IllegalArgumentException {
        requireUp();
        if (userState != AWAITING_FINGER) {
            throw new IllegalStateException();
        }
        if (!isWithin(sample, 0, LAST_VALUE)) {
            throw new IllegalArgumentException();
        }
        Certificate privilege = certificateOf(outerToken, Certificate.PRIVILEGE);
        Certificate template = certificateOf(outerToken, Certificate.FINGER);
        if (privilege != null && template != null && matches(sample, template.value)) {
            give(outerToken, authorisationBy(privilege));
            writeAbout(outerToken, Log.AUTHORISED);
            allowEntry();
        } else {
            turnAway(Log.NO_MATCH);
        }
        return userState;
    }

    public int remove() throws IllegalStateException {
        requireUp();
        requireFilled(outerToken);
        int token = outerToken;
        if (userState == ENTER) {
            unlock();
        } else if (userState == AWAITING_FINGER) {
            writeAbout(token, Log.TAKEN_OUT_EARLY);
        }
        outerToken = NONE;
        becomeUserState(IDLE);
        return token;
    }

    public int logon(int token) throws IllegalStateException, NoSuchElementException {
        requireUp();
        requireToken(token);
        requireInNoReader(token);
        requireEmpty(innerToken);
        innerToken = token;
        administratorRole = isAuthorised(token) ? authorisedRole(token) : NO_ROLE;
        writeAbout(token, administratorRole == NO_ROLE ? Log.LOGON_REFUSED : Log.LOGGED_ON);
        return administratorRole;
    }

    public int logoff() throws IllegalStateException {
        requireUp();
        requireFilled(innerToken);
        int token = innerToken;
        if (administratorRole != NO_ROLE) {
            dismissAdministrator();
        }
        innerToken = NONE;
        return token;
    }

    public int override() throws IllegalStateException, UnsupportedOperationException {
        requireUp();
        requireAdministrator();
        requireRole(GUARD);
        unlock();
        writeAbout(innerToken, Log.OVERRIDDEN);
        return unlockedUntil;
    }

    public int archive() throws IllegalStateException, UnsupportedOperationException {
        requireUp();
        requireAdministrator();
        requireRole(AUDITOR);
        int entries = log.size;
        log.clear();
        writeAbout(innerToken, Log.ARCHIVED);
        return entries;
    }

    public int configure(int which, int value)
            throws IllegalStateException, UnsupportedOperationException, IllegalArgumentException {
        requireUp();
        requireAdministrator();
        requireRole(OFFICER);
        if (!isWithin(which, LATCH, CLASS) || !isWithin(value, 0, HIGHEST_CONFIGURATION[which])) {
            throw new IllegalArgumentException();
        }
        int before = configuration[which];
        configuration[which] = value;
        writeAbout(innerToken, Log.CONFIGURED);
        return before;
    }

    public int shutdown() throws IllegalStateException, UnsupportedOperationException {
        requireUp();
        requireAdministrator();
        if (doorOpen) {
            throw new IllegalStateException();
        }
        requireRole(OFFICER);
        writeAbout(innerToken, Log.SHUT_DOWN);
        up = false;
        unlockedUntil = time;
        outerToken = NONE;
        innerToken = NONE;
        becomeUserState(IDLE);
        administratorRole = NO_ROLE;
        return 1;
    }

    public int door(boolean open) {
        if (open == doorOpen) {
            return 0;
        }
        doorOpen = open;
        if (open && !isUnlocked()) {
            log.write(Log.DOOR_FORCED, time, NONE);
            alarmTime = time + configuration[SILENCE];
        }
        return 1;
    }

    public int pass(int n) throws IllegalArgumentException {
        if (!isWithin(n, 1, LONGEST_PASS) || n > LAST_TIME - time) {
            throw new IllegalArgumentException();
        }
        for (int second = 0; second < n; second++) {
            time++;
            endWaitingInTime();
            endAdministrationInTime();
        }
        return time;
    }

    public int entry(int index, int what) throws NoSuchElementException, IllegalArgumentException {
        if (!isWithin(index, 0, log.size - 1)) {
            throw new NoSuchElementException();
        }
        switch (what) {
            case 0:
                return log.kinds[index];
            case 1:
                return log.times[index];
            case 2:
                return log.holders[index];
            default:
                throw new IllegalArgumentException();
        }
    }

    public int certificate(int token, int kind, int what)
            throws NoSuchElementException, IllegalArgumentException {
        requireToken(token);
        if (!isWithin(kind, 0, Certificate.KINDS - 1) || !isWithin(what, 0, 6)) {
            throw new IllegalArgumentException();
        }
        Certificate asked = certificateOf(token, kind);
        if (asked == null) {
            throw new NoSuchElementException();
        }
        switch (what) {
            case 0:
                return asked.issuer;
            case 1:
                return asked.holder;
            case 2:
                return asked.value;
            case 3:
                return asked.from;
            case 4:
                return asked.to;
            case 5:
                return asked.signature;
            default:
                return asNumber(isValid(asked));
        }
    }

    public int count(int what) throws IllegalArgumentException {
        switch (what) {
            case 0:
                return asNumber(up);
            case 1:
                return userState;
            case 2:
                return administratorRole;
            case 3:
                return asNumber(isUnlocked());
            case 4:
                return asNumber(doorOpen);
            case 5:
                return asNumber(isAlarmSounding());
            case 6:
                return asNumber(log.alarm);
            case 7:
                return log.size;
            case 8:
                return time;
            case 9:
                return outerToken;
            case 10:
                return innerToken;
            default:
                throw new IllegalArgumentException();
        }
    }

    private static boolean isWithin(int number, int lowest, int highest) {
        return number >= lowest && number <= highest;
    }

    private static int asNumber(boolean holds) {
        return holds ? 1 : 0;
    }

    private static boolean areCertificateNumbers(int kind, int issuer, int holder, int value, int from, int to) {
        return isWithin(kind, 0, Certificate.KINDS - 1)
                && isWithin(issuer, 0, STATION)
                && isWithin(holder, 0, LAST_HOLDER)
                && isWithin(value, 0, LAST_VALUE)
                && isWithin(from, 0, LAST_TIME)
                && isWithin(to, 0, LAST_TIME);
    }

    private static void requireToken(int token) {
        if (!isWithin(token, 0, TOKENS - 1)) {
            throw new NoSuchElementException();
        }
    }

    private static void requireEmpty(int tokenInReader) {
        if (tokenInReader != NONE) {
            throw new IllegalStateException();
        }
    }

    private static void requireFilled(int tokenInReader) {
        if (tokenInReader == NONE) {
            throw new IllegalStateException();
        }
    }

    private void requireInNoReader(int token) {
        if (token == outerToken || token == innerToken) {
            throw new IllegalStateException();
        }
    }

    private void requireUp() {
        if (!up) {
            throw new IllegalStateException();
        }
    }

    private void requireAdministrator() {
        if (administratorRole == NO_ROLE) {
            throw new IllegalStateException();
        }
    }

    private void requireRole(int role) {
        if (administratorRole != role) {
            throw new UnsupportedOperationException();
        }
    }

    private boolean isEnrolled(int issuer) {
        return keys[issuer] != 0;
    }

    private int enrolledIssuers() {
        int enrolled = 0;
        for (int issuer = 0; issuer < ISSUERS; issuer++) {
            if (isEnrolled(issuer)) {
                enrolled++;
            }
        }
        return enrolled;
    }

    private int rightSignature(int kind, int issuer, int holder, int value, int from, int to) {
        int content = ((kind * 100 + holder) * 65536 + value) % MODULUS + from * 31 + to * 37 + 1;
        // content times a key goes beyond what an int holds
        return (int) ((long) content * keys[issuer] % MODULUS);
    }

    private Certificate certificateOf(int token, int kind) {
        return token == NONE ? null : certificates[token * Certificate.KINDS + kind];
    }

    private void give(int token, Certificate given) {
        certificates[token * Certificate.KINDS + given.kind] = given;
    }

    private boolean isValid(Certificate asked) {
        return asked != null
                && isEnrolled(asked.issuer)
                && isWithin(time, asked.from, asked.to)
                && asked.isFitForItsKind()
                && asked.signature == rightSignature(
                        asked.kind, asked.issuer, asked.holder, asked.value, asked.from, asked.to);
    }

    private boolean isGood(int token) {
        return isValidForIdHolder(token, Certificate.PRIVILEGE)
                && isValidForIdHolder(token, Certificate.FINGER);
    }

    private boolean isAuthorised(int token) {
        return isValidForIdHolder(token, Certificate.AUTHORISATION);
    }

    private boolean isValidForIdHolder(int token, int kind) {
        Certificate id = certificateOf(token, Certificate.ID);
        Certificate other = certificateOf(token, kind);
        return id != null && other != null && id.holder == other.holder && isValid(id) && isValid(other);
    }

    private int authorisedRole(int token) {
        Certificate authorisation = certificateOf(token, Certificate.AUTHORISATION);
        return authorisation == null ? NO_ROLE : authorisation.role();
    }

    private boolean matches(int sample, int template) {
        return Integer.bitCount(sample ^ template) <= configuration[THRESHOLD];
    }

    private Certificate authorisationBy(Certificate privilege) {
        int kind = Certificate.AUTHORISATION;
        int value = 4 * Math.min(privilege.clearance(), configuration[CLASS]) + privilege.role();
        int to = Math.min(time + configuration[PERIOD], LAST_TIME);
        int signature = rightSignature(kind, STATION, privilege.holder, value, time, to);
        return new Certificate(kind, STATION, privilege.holder, value, time, to, signature);
    }

    private void becomeUserState(int state) {
        userState = state;
        userStateSince = time;
    }

    private void allowEntry() {
        becomeUserState(ENTER);
        writeAbout(outerToken, Log.ENTRY_ALLOWED);
    }

    private void turnAway(int entryKind) {
        becomeUserState(AWAITING_REMOVAL);
        writeAbout(outerToken, entryKind);
    }

    private void endWaitingInTime() {
        boolean waiting = userState == AWAITING_FINGER || userState == ENTER;
        // at least, not just: WAIT may have been set lower in the meantime
        if (waiting && time - userStateSince >= configuration[WAIT]) {
            turnAway(Log.TIME_OUT);
        }
    }

    private void endAdministrationInTime() {
        if (administratorRole != NO_ROLE && !isValid(certificateOf(innerToken, Certificate.AUTHORISATION))) {
            dismissAdministrator();
        }
    }

    private void dismissAdministrator() {
        administratorRole = NO_ROLE;
        writeAbout(innerToken, Log.LOGGED_OFF);
    }

    private void unlock() {
        unlockedUntil = time + configuration[LATCH];
        alarmTime = unlockedUntil + configuration[SILENCE];
    }

    private boolean isUnlocked() {
        return time < unlockedUntil;
    }

    private boolean isAlarmSounding() {
        return doorOpen && !isUnlocked() && time >= alarmTime;
    }

    private void writeAbout(int token, int entryKind) {
        Certificate id = certificateOf(token, Certificate.ID);
        log.write(entryKind, time, id == null ? NONE : id.holder);
    }

    private static final class Certificate {
        static final int ID = 0;
        static final int PRIVILEGE = 1;
        static final int FINGER = 2;
        static final int AUTHORISATION = 3;
        static final int KINDS = 4;
        static final int HIGHEST_ROLE_VALUE = 15;

        final int kind;
        final int issuer;
        final int holder;
        final int value;
        final int from;
        final int to;
        final int signature;

        Certificate(int kind, int issuer, int holder, int value, int from, int to, int signature) {
            this.kind = kind;
            this.issuer = issuer;
            this.holder = holder;
            this.value = value;
            this.from = from;
            this.to = to;
            this.signature = signature;
        }

        boolean isFitForItsKind() {
            if (kind == AUTHORISATION) {
                return issuer == STATION && value <= HIGHEST_ROLE_VALUE;
            }
            return kind != PRIVILEGE || value <= HIGHEST_ROLE_VALUE;
        }

        int clearance() {
            return value / 4;
        }

        int role() {
            return value % 4;
        }
    }

    private static final class Log {
        static final int STARTED = 1;
        static final int TAKEN_IN = 2;
        static final int REFUSED = 3;
        static final int AUTHORISED = 4;
        static final int NO_MATCH = 5;
        static final int TIME_OUT = 6;
        static final int ENTRY_ALLOWED = 7;
        static final int TAKEN_OUT_EARLY = 8;
        static final int DOOR_FORCED = 9;
        static final int LOGGED_ON = 10;
        static final int LOGGED_OFF = 11;
        static final int OVERRIDDEN = 12;
        static final int ARCHIVED = 13;
        static final int CONFIGURED = 14;
        static final int SHUT_DOWN = 15;
        static final int LOGON_REFUSED = 16;

        static final int ROOM = 16;
        static final int LOST_WHEN_FULL = 4;

        final int[] kinds = new int[ROOM];
        final int[] times = new int[ROOM];
        final int[] holders = new int[ROOM];
        int size;
        boolean alarm;

        void write(int kind, int time, int holder) {
            if (size >= ROOM) {
                loseOldest();
            }
            kinds[size] = kind;
            times[size] = time;
            holders[size] = holder;
            size++;
        }

        void loseOldest() {
            size = ROOM - LOST_WHEN_FULL;
            System.arraycopy(kinds, LOST_WHEN_FULL, kinds, 0, size);
            System.arraycopy(times, LOST_WHEN_FULL, times, 0, size);
            System.arraycopy(holders, LOST_WHEN_FULL, holders, 0, size);
            alarm = true;
        }

        void clear() {
            size = 0;
            alarm = false;
        }
    }
}
