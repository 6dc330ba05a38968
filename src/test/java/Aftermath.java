/** Ways to look at a station so that what it holds inside comes to light, each within 350 calls. */
enum Aftermath {
    STATE {
        @Override
        String of(SecureEntry station) {
            return Stations.wholeView(station);
        }
    },
    /** Tells since when a user state has lasted, UNTIL, and the alarm time if the door is open. */
    SECONDS {
        @Override
        String of(SecureEntry station) {
            return secondBySecond(station);
        }
    },
    /** Tells the alarm time behind a closed door of an unlocked latch. */
    DOOR {
        @Override
        String of(SecureEntry station) {
            station.door(station.count(4) == 0);
            return secondBySecond(station);
        }
    },
    CONFIGURATION {
        @Override
        String of(SecureEntry station) {
            return configuration(station);
        }
    };

    private static final int SECONDS_SEEN = 35;
    private static final int LAST_TIME = 100000;

    abstract String of(SecureEntry station);

    private static String secondBySecond(SecureEntry station) {
        StringBuilder seen = new StringBuilder();
        for (int second = 0; second < SECONDS_SEEN && station.count(8) < LAST_TIME; second++) {
            seen.append(station.pass(1)).append(':');
            for (int what : new int[] {1, 2, 3, 5, 7}) {
                seen.append(' ').append(station.count(what));
            }
            seen.append(", ");
        }
        return seen.toString();
    }

    /** An officer reads the configuration by setting it; the station itself vouches for his ID. */
    private static String configuration(SecureEntry station) {
        if (station.count(0) == 0) {
            station.enrol(5, 1);
            station.start();
        }
        if (station.count(10) != -1) {
            station.logoff();
        }
        int token = station.count(9) == 0 ? 1 : 0;
        Stations.certifyRightly(station, token, 0, 6, 1, 0, Stations.ALWAYS);
        Stations.certifyRightly(station, token, 3, 6, 1, Stations.OFFICER, Stations.ALWAYS);
        station.logon(token);
        StringBuilder seen = new StringBuilder();
        for (int which = 0; which < 6; which++) {
            seen.append(station.configure(which, 0)).append(' ');
        }
        return seen.toString();
    }
}
