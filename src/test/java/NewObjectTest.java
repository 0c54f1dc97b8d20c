/** Promise 1: the settings are kept within their bounds, and a new object has nothing. */
public final class NewObjectTest {
    private static final int MIN = Integer.MIN_VALUE;
    private static final int MAX = Integer.MAX_VALUE;

    public static void main(String[] args) {
        leaseIsAtLeast8AndAtMost60();
        limitIsAtLeast1AndAtMost5();
        sizeIsAtLeast4AndAtMost12();
        settingsDoNotMix();
        nothingIsThere();
        noPools();
        noFiles();
        noEntries();
        objectsShareNothing();
        Due.end();
    }

    private static void leaseIsAtLeast8AndAtMost60() {
        int[][] cases = {
            {MIN, 8}, {MIN + 1, 8}, {-1, 8}, {0, 8}, {7, 8}, {8, 8}, {9, 9},
            {59, 59}, {60, 60}, {61, 60}, {MAX - 1, 60}, {MAX, 60},
        };
        for (int[] c : cases) {
            Due.is("1: LEASE of " + c[0], leaseOf(new BootNet(c[0], 3, 4)), c[1]);
        }
    }

    private static int leaseOf(BootNet x) {
        x.pool(0, 1, 1);
        x.attach(0);
        x.boot(0);
        Nets.settle(x);
        Due.is("1: LEASE at the server", x.lease(1, 1), x.station(0, Nets.END));
        return x.station(0, Nets.END);
    }

    private static void limitIsAtLeast1AndAtMost5() {
        int[][] cases = {
            {MIN, 1}, {MIN + 1, 1}, {-1, 1}, {0, 1}, {1, 1}, {2, 2}, {4, 4}, {5, 5}, {6, 5}, {MAX - 1, 5}, {MAX, 5},
        };
        for (int[] c : cases) {
            Due.is("1: LIMIT of " + c[0], limitOf(new BootNet(20, c[0], 4)), c[1]);
        }
    }

    /** How many DISCOVERs are sent before a station fails. */
    private static int limitOf(BootNet x) {
        x.attach(0);
        x.boot(0);
        for (int i = 0; i < 60 && x.station(0, Nets.STATE) != 7; i++) {
            x.tick();
        }
        return Nets.underWay(x);
    }

    private static void sizeIsAtLeast4AndAtMost12() {
        int[][] cases = {
            {MIN, 4}, {MIN + 1, 4}, {-1, 4}, {0, 4}, {3, 4}, {4, 4}, {5, 5},
            {11, 11}, {12, 12}, {13, 12}, {MAX - 1, 12}, {MAX, 12},
        };
        for (int[] c : cases) {
            Due.is("1: SIZE of " + c[0], sizeOf(new BootNet(20, 3, c[0])), c[1]);
        }
    }

    private static int sizeOf(BootNet x) {
        x.pool(0, 1, 1);
        x.attach(0);
        Nets.putCounting(x, 0, 40);
        x.entry(0, 40, 0);
        Nets.bind(x, 0);
        x.deliver(0);
        return x.message(0, 5);
    }

    private static void settingsDoNotMix() {
        int[][] cases = {{MIN, MIN, MIN, 8, 1, 4}, {MAX, MAX, MAX, 60, 5, 12}, {9, 2, 5, 9, 2, 5}, {MIN, MAX, 0, 8, 5, 4}};
        for (int[] c : cases) {
            Due.is("1: LEASE of three", leaseOf(new BootNet(c[0], c[1], c[2])), c[3]);
            Due.is("1: LIMIT of three", limitOf(new BootNet(c[0], c[1], c[2])), c[4]);
            Due.is("1: SIZE of three", sizeOf(new BootNet(c[0], c[1], c[2])), c[5]);
        }
    }

    private static void nothingIsThere() {
        BootNet x = new BootNet(20, 3, 4);
        Due.is("1: no message to deliver", x.deliver(0), BootNet.NONE);
        Due.no("1: no message to lose", x.alter(0, false));
        Due.no("1: no message to come twice", x.alter(0, true));
        Due.is("1: no message", x.message(0, 0), BootNet.NONE);
        Due.is("1: no station", x.station(0, 0), BootNet.NONE);
        Due.no("1: no station to boot", x.boot(0));
        Due.no("1: no station to reserve for", x.reserve(0, 1));
        Due.is("1: no image", x.image(0, 0), BootNet.NONE);
        for (int address : Nets.ADDRESSES) {
            Due.is("1: no lease", x.lease(address, 0), BootNet.NONE);
            Due.is("1: no tick", x.lease(address, 1), BootNet.NONE);
            Due.is("1: no offer", x.lease(address, 2), BootNet.NONE);
            Due.is("1: no bar", x.lease(address, 3), BootNet.NONE);
            Due.no("1: no stranger", x.stranger(address, false));
        }
        Due.is("1: no record", x.journal(), 0);
        Due.is("1: no record after a crash", x.crash(), 0);
        Due.is("1: no message after a tick", x.tick(), 0);
        Due.is("1: the first station", x.attach(0), 0);
    }

    private static void noPools() {
        for (int subnet = 0; subnet <= 2; subnet++) {
            BootNet x = new BootNet(20, 3, 4);
            x.attach(subnet);
            x.boot(0);
            Nets.settle(x);
            Due.is("1: nothing is offered in subnet " + subnet, x.tick(), 0);
            Nets.station(x, "1: no address", 0, Nets.STATE, 1);
            Due.yes("1: there is room for a pool", x.pool(subnet, 1, 9));
        }
    }

    private static void noFiles() {
        for (int file = 0; file <= 3; file++) {
            BootNet x = new BootNet(20, 3, 4);
            x.pool(0, 1, 1);
            x.attach(0);
            x.entry(file, 0, 0);
            Nets.bind(x, 0);
            Nets.settle(x);
            Due.is("1: no bytes of file " + file, x.check(file), 0);
            Nets.station(x, "1: no file " + file, 0, Nets.RESULT, 3);
        }
    }

    private static void noEntries() {
        BootNet x = new BootNet(20, 3, 4);
        x.pool(0, 1, 1);
        x.attach(0);
        x.put(0, 1);
        Nets.bind(x, 0);
        Nets.station(x, "1: no entries", 0, Nets.RESULT, 2);
        for (int i = 0; i < 4; i++) {
            Due.yes("1: there is room for entries", x.entry(0, 1, 0));
        }
    }

    private static void objectsShareNothing() {
        BootNet first = new BootNet(20, 3, 4);
        BootNet second = new BootNet(30, 2, 12);
        String before = Picture.of(second);
        leaseOf(first);
        first.stranger(1, true);
        Nets.putCounting(first, 0, 3);
        first.entry(0, 3, 0);
        Nets.ticks(first, 5);
        Due.yes("1: another object stays as it was", Picture.of(second).equals(before));
        Due.is("1: with settings and a time of its own", leaseOf(second), 30);
        Nets.station(second, "1: and numbers of its own", 0, Nets.NUMBER, 2);
    }
}
