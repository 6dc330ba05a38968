import java.math.BigInteger;

/** Stations and tokens as the tests need them. */
final class Stations {
    static final int GUARD = 1;
    static final int AUDITOR = 2;
    static final int OFFICER = 3;
    static final int TEMPLATE = 300;
    static final int ALWAYS = 100000;
    static final int KEY = 77;
    static final int STATION_KEY = 4711;
    /** The token and the holder of it with which {@link #upWith} logs on. */
    static final int ADMINISTRATOR = 5;
    static final int ADMINISTRATOR_HOLDER = 50;

    private Stations() {
    }

    static SecureEntry enrolled() {
        SecureEntry station = new SecureEntry();
        station.enrol(0, KEY);
        return station;
    }

    static SecureEntry up() {
        SecureEntry station = enrolled();
        station.start();
        return station;
    }

    static SecureEntry upWith(int role) {
        return upWith(role, ALWAYS);
    }

    static SecureEntry upWith(int role, int to) {
        SecureEntry station = up();
        giveAuthorisation(station, ADMINISTRATOR, ADMINISTRATOR_HOLDER, role, to);
        station.logon(ADMINISTRATOR);
        return station;
    }

    /** The administrator's token is still in, but his authorisation has lapsed. */
    static SecureEntry upWithLapsed(int role) {
        SecureEntry station = upWith(role, 3);
        station.pass(4);
        return station;
    }

    static SecureEntry afterShutdown() {
        SecureEntry station = upWith(OFFICER);
        station.shutdown();
        return station;
    }

    /** In the outer reader is token 0, holder 5, waiting for a finger like TEMPLATE. */
    static SecureEntry upForFinger(int privilege) {
        SecureEntry station = up();
        giveGood(station, 0, 5, privilege);
        station.insert(0);
        return station;
    }

    /** In the outer reader is token 0, holder 5, allowed to enter. */
    static SecureEntry upForEntry() {
        SecureEntry station = up();
        giveAuthorisation(station, 0, 5, 0, ALWAYS);
        station.insert(0);
        return station;
    }

    /** In the outer reader is token 0 without a certificate, to be taken out. */
    static SecureEntry upForRemoval() {
        SecureEntry station = up();
        station.insert(0);
        return station;
    }

    static void certifyRightly(SecureEntry station, int token, int kind, int issuer, int holder, int value, int to) {
        certifyFrom(station, token, kind, issuer, holder, value, 0, to);
    }

    static void certifyFrom(SecureEntry station, int token, int kind, int issuer, int holder, int value,
            int from, int to) {
        int signature = station.signature(kind, issuer, holder, value, from, to);
        station.certify(token, kind, issuer, holder, value, from, to, signature);
    }

    static void giveGood(SecureEntry station, int token, int holder, int privilege) {
        certifyRightly(station, token, 0, 0, holder, 0, ALWAYS);
        certifyRightly(station, token, 1, 0, holder, privilege, ALWAYS);
        certifyRightly(station, token, 2, 0, holder, TEMPLATE, ALWAYS);
    }

    static void giveAuthorisation(SecureEntry station, int token, int holder, int value, int to) {
        certifyRightly(station, token, 0, 0, holder, 0, ALWAYS);
        certifyRightly(station, token, 3, 6, holder, value, to);
    }

    /** The formula of the terms, with numbers that have no bound. */
    static int rightSignature(int key, int kind, int holder, int value, int from, int to) {
        BigInteger modulus = BigInteger.valueOf(9973);
        BigInteger content = BigInteger.valueOf(kind).multiply(BigInteger.valueOf(100))
                .add(BigInteger.valueOf(holder)).multiply(BigInteger.valueOf(65536))
                .add(BigInteger.valueOf(value)).mod(modulus);
        BigInteger times = BigInteger.valueOf(from).multiply(BigInteger.valueOf(31))
                .add(BigInteger.valueOf(to).multiply(BigInteger.valueOf(37)));
        return content.add(times).add(BigInteger.ONE).multiply(BigInteger.valueOf(key)).mod(modulus).intValue();
    }

    static void passTo(SecureEntry station, int time) {
        int now = station.count(8);
        while (now < time) {
            now = station.pass(Math.min(1000, time - now));
        }
    }

    /** Writes entries of kind 9 until the log has so many of them; the door is closed in the end. */
    static void fillLog(SecureEntry station, int entries) {
        for (int entry = station.count(7); entry < entries; entry++) {
            station.door(true);
            station.door(false);
        }
    }

    static String wholeView(SecureEntry station) {
        StringBuilder seen = new StringBuilder("counts");
        for (int what = 0; what <= 10; what++) {
            seen.append(' ').append(station.count(what));
        }
        for (int index = 0; index < station.count(7); index++) {
            seen.append(", entry ").append(station.entry(index, 0)).append(' ')
                    .append(station.entry(index, 1)).append(' ').append(station.entry(index, 2));
        }
        for (int place = 0; place < 24; place++) {
            seen.append(certificateText(station, place / 4, place % 4));
        }
        for (int issuer = 0; issuer <= 6; issuer++) {
            // such a certificate's signature is the issuer's key itself
            seen.append(", key ").append(station.signature(0, issuer, 0, 0, 0, 0));
        }
        return seen.toString();
    }

    private static String certificateText(SecureEntry station, int token, int kind) {
        StringBuilder seen = new StringBuilder();
        try {
            for (int what = 0; what <= 6; what++) {
                seen.append(' ').append(station.certificate(token, kind, what));
            }
        } catch (java.util.NoSuchElementException none) {
            return "";
        }
        return ", certificate " + token + " " + kind + ":" + seen;
    }
}
