/** Stations and tokens as the tests need them. */
final class Stations {
    static final int GUARD = 1;
    static final int AUDITOR = 2;
    static final int OFFICER = 3;
    static final int TEMPLATE = 300;
    static final int ALWAYS = 100000;
    /** The token and the holder of it with which {@link #upWith} logs on. */
    static final int ADMINISTRATOR = 5;
    static final int ADMINISTRATOR_HOLDER = 50;

    private Stations() {
    }

    static SecureEntry enrolled() {
        SecureEntry station = new SecureEntry();
        station.enrol(0, 77);
        return station;
    }

    static SecureEntry up() {
        SecureEntry station = enrolled();
        station.start();
        return station;
    }

    static SecureEntry upWith(int role) {
        SecureEntry station = up();
        giveAuthorisation(station, ADMINISTRATOR, ADMINISTRATOR_HOLDER, role, ALWAYS);
        station.logon(ADMINISTRATOR);
        return station;
    }

    /** In the outer reader is token 0, holder 5, waiting for a finger like TEMPLATE. */
    static SecureEntry upForFinger(int privilege) {
        SecureEntry station = up();
        giveGood(station, 0, 5, privilege);
        station.insert(0);
        return station;
    }

    static void certifyRightly(SecureEntry station, int token, int kind, int issuer, int holder, int value, int to) {
        int signature = station.signature(kind, issuer, holder, value, 0, to);
        station.certify(token, kind, issuer, holder, value, 0, to, signature);
    }

    static void giveGood(SecureEntry station, int token, int holder, int privilege) {
        certifyRightly(station, token, 0, 0, holder, 0, ALWAYS);
        certifyRightly(station, token, 1, 0, holder, privilege, ALWAYS);
        certifyRightly(station, token, 2, 0, holder, TEMPLATE, ALWAYS);
    }

    static void giveAuthorisation(SecureEntry station, int token, int holder, int value, int to) {
        certifyRightly(station, token, 0, 0, holder, 0, ALWAYS);
        certifyRightly(station, token, 3, 6, holder, value, to);
    }

    static void passTo(SecureEntry station, int time) {
        while (station.count(8) < time) {
            station.pass(Math.min(1000, time - station.count(8)));
        }
    }

    /** Few calls, because an object is promised for 512 of them alone. */
    static String glance(SecureEntry station) {
        StringBuilder seen = new StringBuilder("counts");
        for (int what = 0; what <= 10; what++) {
            seen.append(' ').append(station.count(what));
        }
        return seen.append(", last entry").append(entryText(station, station.count(7) - 1)).toString();
    }

    static String wholeView(SecureEntry station) {
        StringBuilder seen = new StringBuilder(glance(station));
        for (int index = 0; index < station.count(7); index++) {
            seen.append(", entry").append(entryText(station, index));
        }
        for (int place = 0; place < 24; place++) {
            seen.append(certificateText(station, place / 4, place % 4));
        }
        return seen.toString();
    }

    private static String entryText(SecureEntry station, int index) {
        if (index < 0) {
            return " none";
        }
        return " " + station.entry(index, 0) + " " + station.entry(index, 1) + " " + station.entry(index, 2);
    }

    private static String certificateText(SecureEntry station, int token, int kind) {
        StringBuilder seen = new StringBuilder();
        try {
            for (int what = 0; what <= 6; what++) {
                seen.append(' ').append(station.certificate(token, kind, what));
            }
        } catch (java.util.NoSuchElementException none) {
            return "";
        }
        return ", certificate " + token + " " + kind + ":" + seen;
    }
}
