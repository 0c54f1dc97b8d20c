/** Small steps that several tests take. */
final class Nets {
    static final int STATE = 0;
    static final int ADDRESS = 1;
    static final int NUMBER = 2;
    static final int END = 3;
    static final int CONFLICTS = 4;
    static final int RESULT = 5;
    static final int ENTRY = 6;
    static final int BYTES = 7;

    private Nets() {
    }

    static void ticks(BootNet x, int n) {
        for (int i = 0; i < n; i++) {
            x.tick();
        }
    }

    /** Delivers the first message again and again until none is under way (or far too many were). */
    static void settle(BootNet x) {
        for (int i = 0; i < 400 && x.deliver(0) != BootNet.NONE; i++) {
            continue;
        }
    }

    static void loseAll(BootNet x) {
        loseFrom(x, 0);
    }

    static void loseFrom(BootNet x, int k) {
        for (int i = 0; i < 32 && x.alter(k, false); i++) {
            continue;
        }
    }

    static int underWay(BootNet x) {
        int n = 0;
        while (n < 100 && x.message(n, 0) != BootNet.NONE) {
            n++;
        }
        return n;
    }

    static void putAll(BootNet x, int file, int... bytes) {
        for (int b : bytes) {
            x.put(file, b);
        }
    }

    /** Bytes 0, 1, 2, .. are put to a file. */
    static void putCounting(BootNet x, int file, int n) {
        for (int i = 0; i < n; i++) {
            x.put(file, i);
        }
    }

    /** Boots a station and brings it to where its probe has been answered by nobody. */
    static void bind(BootNet x, int station) {
        x.boot(station);
        settle(x);
        ticks(x, 3);
    }

    /** Message k is as said: kind, station, number, address or file, block, how many bytes, leg. */
    static void message(BootNet x, String where, int k, int... want) {
        for (int what = 0; what < want.length; what++) {
            Due.is(where + ": message " + k + " what " + what, x.message(k, what), want[what]);
        }
    }

    static void station(BootNet x, String where, int station, int what, int want) {
        Due.is(where + ": station " + station + " what " + what, x.station(station, what), want);
    }
}
