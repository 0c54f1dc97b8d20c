/** Small steps that several tests take. */
final class Nets {
    static final int STATE = 0;
    static final int ADDRESS = 1;
    static final int NUMBER = 2;
    static final int END = 3;
    static final int CONFLICTS = 4;
    static final int RESULT = 5;
    static final int ENTRY = 6;
    static final int BYTES = 7;

    static final int[] ADDRESSES = {
        1, 2, 3, 4, 5, 6, 7, 8, 9, 11, 12, 13, 14, 15, 16, 17, 18, 19, 21, 22, 23, 24, 25, 26, 27, 28, 29,
    };

    private Nets() {
    }

    /** Stations in subnet 0, whose pool goes from 1 to a high address. */
    static BootNet net(int lease, int limit, int size, int stations, int high) {
        BootNet x = new BootNet(lease, limit, size);
        x.pool(0, 1, high);
        for (int i = 0; i < stations; i++) {
            x.attach(0);
        }
        return x;
    }

    static void ticks(BootNet x, int n) {
        for (int i = 0; i < n; i++) {
            x.tick();
        }
    }

    /** Delivers the first message again and again until none is under way (or far too many were). */
    static void settle(BootNet x) {
        for (int i = 0; i < 400 && x.deliver(0) != BootNet.NONE; i++) {
            continue;
        }
    }

    static void loseAll(BootNet x) {
        loseFrom(x, 0);
    }

    static void loseFrom(BootNet x, int k) {
        for (int i = 0; i < 32 && x.alter(k, false); i++) {
            continue;
        }
    }

    static int underWay(BootNet x) {
        int n = 0;
        while (n < 100 && x.message(n, 0) != BootNet.NONE) {
            n++;
        }
        return n;
    }

    static void putAll(BootNet x, int file, int... bytes) {
        for (int b : bytes) {
            x.put(file, b);
        }
    }

    /** Bytes 0, 1, 2, .. are put to a file. */
    static void putCounting(BootNet x, int file, int n) {
        for (int i = 0; i < n; i++) {
            x.put(file, i);
        }
    }

    /** Boots a station and brings it to where its probe has been answered by nobody. */
    static void bind(BootNet x, int station) {
        x.boot(station);
        settle(x);
        ticks(x, 3);
    }

    /** The ints next to a range on both sides, and those at both ends of int. */
    static int[] outside(int least, int most) {
        return new int[] {
            Integer.MIN_VALUE, Integer.MIN_VALUE + 1, least - 1, most + 1, Integer.MAX_VALUE - 1, Integer.MAX_VALUE,
        };
    }

    static void deliver(BootNet x, int k, int times) {
        for (int i = 0; i < times; i++) {
            x.deliver(k);
        }
    }

    /** Copies of message k are made until so many messages are under way. */
    static void fillTo(BootNet x, int k, int count) {
        for (int n = underWay(x); n < count; n++) {
            x.alter(k, true);
        }
    }

    /** Message k is as said: kind, station, number, address or file, block, how many bytes, leg. */
    static void message(BootNet x, String where, int k, int... want) {
        for (int what = 0; what < want.length; what++) {
            Due.is(where + ": message " + k + " what " + what, x.message(k, what), want[what]);
        }
    }

    static void station(BootNet x, String where, int station, int what, int want) {
        Due.is(where + ": station " + station + " what " + what, x.station(station, what), want);
    }
}
