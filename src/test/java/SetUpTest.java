import java.util.zip.CRC32;

/** Promises 1 to 8: what the caller lays out. */
public final class SetUpTest {
    public static void main(String[] args) {
        newObject();
        leaseIsKeptWithinBounds();
        limitIsKeptWithinBounds();
        sizeIsKeptWithinBounds();
        pool();
        attach();
        reserve();
        reservedAddressesAreKeptFromOthers();
        stranger();
        put();
        entry();
        check();
        Due.end();
    }

    private static void newObject() {
        BootNet x = new BootNet(20, 3, 4);
        Due.is("1: tick", x.tick(), 0);
        Due.is("1: deliver", x.deliver(0), BootNet.NONE);
        Due.no("1: alter", x.alter(0, false));
        Due.no("1: alter twice", x.alter(0, true));
        Due.is("1: message", x.message(0, 0), BootNet.NONE);
        Due.is("1: station", x.station(0, 0), BootNet.NONE);
        Due.is("1: image", x.image(0, 0), BootNet.NONE);
        Due.is("1: lease", x.lease(1, 0), BootNet.NONE);
        Due.is("1: bar", x.lease(1, 3), BootNet.NONE);
        Due.is("1: journal", x.journal(), 0);
        Due.is("1: crash", x.crash(), 0);
        Due.is("1: check", x.check(0), 0);
        Due.is("1: first station", x.attach(0), 0);
        x.boot(0);
        x.deliver(0);
        Due.is("1: without a pool nothing is offered", Nets.underWay(x), 0);
    }

    private static void leaseIsKeptWithinBounds() {
        int[][] cases = {{Integer.MIN_VALUE, 8}, {7, 8}, {8, 8}, {9, 9}, {59, 59}, {60, 60}, {61, 60}, {Integer.MAX_VALUE, 60}};
        for (int[] c : cases) {
            BootNet x = new BootNet(c[0], 3, 4);
            x.pool(0, 1, 1);
            x.attach(0);
            x.boot(0);
            Nets.settle(x);
            Nets.station(x, "1: lease " + c[0], 0, Nets.END, c[1]);
            Due.is("1: lease " + c[0] + " at the server", x.lease(1, 1), c[1]);
        }
    }

    private static void limitIsKeptWithinBounds() {
        int[][] cases = {{Integer.MIN_VALUE, 1}, {0, 1}, {1, 1}, {2, 2}, {5, 5}, {6, 5}, {Integer.MAX_VALUE, 5}};
        for (int[] c : cases) {
            BootNet x = new BootNet(20, c[0], 4);
            x.attach(0);
            x.boot(0);
            Nets.ticks(x, 3 * c[1] - 1);
            Nets.station(x, "1: limit " + c[0] + " before", 0, Nets.STATE, 1);
            Due.is("1: limit " + c[0] + " tries", x.tick(), c[1]);
            Nets.station(x, "1: limit " + c[0] + " after", 0, Nets.STATE, 7);
        }
    }

    private static void sizeIsKeptWithinBounds() {
        int[][] cases = {{Integer.MIN_VALUE, 4}, {3, 4}, {4, 4}, {5, 5}, {12, 12}, {13, 12}, {Integer.MAX_VALUE, 12}};
        for (int[] c : cases) {
            BootNet x = new BootNet(20, 3, c[0]);
            x.pool(0, 1, 1);
            x.attach(0);
            Nets.putCounting(x, 0, 40);
            x.entry(0, 40, 0);
            Nets.bind(x, 0);
            Due.is("1: READ", x.deliver(0), 8);
            Nets.message(x, "1: size " + c[0], 0, 9, 0, 0, 0, 1, c[1], 0);
        }
    }

    private static void pool() {
        BootNet x = new BootNet(20, 3, 4);
        Due.no("2: subnet -1", x.pool(-1, 1, 9));
        Due.no("2: subnet 3", x.pool(3, 1, 9));
        Due.no("2: low 0", x.pool(0, 0, 9));
        Due.no("2: high 10", x.pool(0, 1, 10));
        Due.no("2: low above high", x.pool(0, 5, 4));
        Due.no("2: far out", x.pool(0, Integer.MIN_VALUE, Integer.MAX_VALUE));
        Due.yes("2: after refusals", x.pool(0, 3, 4));
        Due.no("2: has one", x.pool(0, 3, 4));
        Due.no("2: has one, another", x.pool(0, 1, 9));
        Due.yes("2: all of subnet 1", x.pool(1, 1, 9));
        Due.yes("2: one address of subnet 2", x.pool(2, 9, 9));
        for (int i = 0; i < 3; i++) {
            x.attach(0);
            x.boot(i);
            x.deliver(0);
            Nets.message(x, "2: pool of two", 0, i < 2 ? 1 : BootNet.NONE);
            Due.is("2: address", x.message(0, 3), i < 2 ? 3 + i : BootNet.NONE);
            Nets.loseAll(x);
        }
        Due.is("2: in subnet 2", x.attach(2), 3);
        x.boot(3);
        x.deliver(0);
        x.deliver(0);
        Due.is("2: its address", x.message(0, 3), 29);
    }

    private static void attach() {
        BootNet x = new BootNet(20, 3, 4);
        Due.is("3: subnet -1", x.attach(-1), -1);
        Due.is("3: subnet 3", x.attach(3), -1);
        for (int i = 0; i < 6; i++) {
            Due.is("3: station", x.attach(i % 3), i);
            for (int what = 0; what < 8; what++) {
                Nets.station(x, "3: new", i, what, 0);
            }
        }
        Due.is("3: a seventh", x.attach(0), -1);
        Due.is("3: no seventh", x.station(6, 0), BootNet.NONE);
        Nets.ticks(x, 9);
        Nets.station(x, "3: off stays off", 0, Nets.STATE, 0);
    }

    private static void reserve() {
        BootNet x = new BootNet(20, 3, 4);
        Due.no("4: no station", x.reserve(0, 1));
        x.attach(1);
        x.attach(1);
        x.attach(2);
        Due.no("4: station -1", x.reserve(-1, 1));
        Due.no("4: station 3", x.reserve(3, 1));
        Due.no("4: n 0", x.reserve(0, 0));
        Due.no("4: n 10", x.reserve(0, 10));
        Due.yes("4: n 9", x.reserve(0, 9));
        Due.yes("4: the same again", x.reserve(0, 9));
        Due.no("4: another's", x.reserve(1, 9));
        Due.yes("4: the same n elsewhere", x.reserve(2, 9));
        Due.yes("4: n 1", x.reserve(0, 1));
        Due.yes("4: the older one is free", x.reserve(1, 9));
        Due.no("4: not any more", x.reserve(0, 9));
        x.boot(0);
        x.deliver(0);
        x.deliver(0);
        Due.is("4: a refusal left the reserved one", x.message(0, 3), 11);
    }

    private static void reservedAddressesAreKeptFromOthers() {
        BootNet x = new BootNet(20, 3, 4);
        x.pool(0, 1, 2);
        x.attach(0);
        x.attach(0);
        x.reserve(1, 1);
        x.boot(0);
        x.deliver(0);
        Due.is("4: the first that is not reserved", x.message(0, 3), 2);
        x.boot(1);
        x.deliver(1);
        Due.is("4: the reserved one", x.message(1, 3), 1);
    }

    private static void stranger() {
        BootNet x = new BootNet(20, 3, 4);
        int[] wrong = {Integer.MIN_VALUE, -1, 0, 10, 20, 30, 31, Integer.MAX_VALUE};
        for (int address : wrong) {
            Due.no("5: takes " + address, x.stranger(address, true));
            Due.no("5: leaves " + address, x.stranger(address, false));
        }
        int[] right = {1, 9, 11, 19, 21, 29};
        for (int address : right) {
            Due.no("5: not there " + address, x.stranger(address, false));
            Due.yes("5: takes " + address, x.stranger(address, true));
            Due.no("5: there already " + address, x.stranger(address, true));
            Due.yes("5: leaves " + address, x.stranger(address, false));
            Due.no("5: left already " + address, x.stranger(address, false));
        }
    }

    private static void put() {
        BootNet x = new BootNet(20, 3, 4);
        Due.no("6: file -1", x.put(-1, 0));
        Due.no("6: file 4", x.put(4, 0));
        Due.no("6: byte -1", x.put(0, -1));
        Due.no("6: byte 256", x.put(0, 256));
        Due.is("6: nothing was put", x.check(0), 0);
        for (int i = 0; i < 40; i++) {
            Due.yes("6: byte " + i, x.put(3, i % 2 == 0 ? 0 : 255));
        }
        int full = x.check(3);
        Due.no("6: a byte too many", x.put(3, 1));
        Due.is("6: it stays", x.check(3), full);
        Due.yes("6: another file", x.put(2, 0));
    }

    private static void entry() {
        BootNet x = new BootNet(20, 3, 4);
        Due.no("7: file -1", x.entry(-1, 1, 0));
        Due.no("7: file 4", x.entry(4, 1, 0));
        Due.no("7: length -1", x.entry(0, -1, 0));
        Due.no("7: length 41", x.entry(0, 41, 0));
        x.pool(0, 1, 1);
        x.attach(0);
        Nets.bind(x, 0);
        Nets.station(x, "7: the list is empty still", 0, Nets.RESULT, 2);
        Due.yes("7: length 0", x.entry(0, 0, Integer.MIN_VALUE));
        Due.yes("7: length 40", x.entry(3, 40, Integer.MAX_VALUE));
        Due.yes("7: the same", x.entry(3, 40, -1));
        Due.yes("7: a fourth", x.entry(1, 1, 0));
        Due.no("7: a fifth", x.entry(1, 1, 0));
    }

    private static void check() {
        BootNet x = new BootNet(20, 3, 4);
        Due.is("8: file -1", x.check(-1), 0);
        Due.is("8: file 4", x.check(4), 0);
        Due.is("8: an empty file", x.check(1), 0);
        Nets.putAll(x, 0, '1', '2', '3', '4', '5', '6', '7', '8', '9');
        Due.is("8: 123456789", x.check(0), 0xCBF43926);
        CRC32 usual = new CRC32();
        for (int i = 0; i < 40; i++) {
            int b = 255 - 6 * i;
            x.put(2, b);
            usual.update(b);
            Due.is("8: after " + i, x.check(2), (int) usual.getValue());
        }
    }
}
