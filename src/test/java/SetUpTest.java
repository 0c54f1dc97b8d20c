import java.util.ArrayList;
import java.util.List;
import java.util.zip.CRC32;

/** Promises 2 to 8: what the caller lays out, up to both ends of what is allowed (RefusedTest has what is not). */
public final class SetUpTest {
    public static void main(String[] args) {
        poolHasItsAddressesAndNoOther();
        poolComesLate();
        attach();
        reserve();
        everyAddressCanBeReserved();
        reservedAddressesAreKeptFromOthers();
        stranger();
        everyStrangerAnswers();
        putFortyBytes();
        putTheLeastAndTheGreatestByte();
        entriesOfTheLeastAndTheGreatestLength();
        fourEntriesOfOneFile();
        check();
        checkAtTheEndsOfInt();
        Due.end();
    }

    private static void poolHasItsAddressesAndNoOther() {
        for (int subnet = 0; subnet <= 2; subnet++) {
            for (int low = 1; low <= 9; low++) {
                for (int high = low; high <= 9; high++) {
                    List<Integer> want = new ArrayList<>();
                    for (int n = low; n <= high; n++) {
                        want.add(10 * subnet + n);
                    }
                    List<Integer> got = offeredOf(subnet, low, high);
                    Due.yes("2: pool " + subnet + " " + low + " " + high + " offers " + got, got.equals(want));
                }
            }
        }
    }

    /** All that is offered, one by one, to a station that finds every address taken. */
    private static List<Integer> offeredOf(int subnet, int low, int high) {
        BootNet x = new BootNet(60, 5, 4);
        Due.yes("2: pool", x.pool(subnet, low, high));
        x.attach(subnet);
        for (int n = 1; n <= 9; n++) {
            x.stranger(10 * subnet + n, true);
        }
        List<Integer> offered = new ArrayList<>();
        for (int boots = 0; boots < 3; boots++) {
            x.boot(0);
            for (int i = 0; i < 150 && x.message(0, 0) != BootNet.NONE; i++) {
                if (x.message(0, 0) == 1 && x.message(0, 6) == 0) {
                    offered.add(x.message(0, 3));
                }
                x.deliver(0);
            }
        }
        return offered;
    }

    private static void poolComesLate() {
        BootNet x = new BootNet(20, 3, 4);
        x.attach(0);
        x.boot(0);
        x.deliver(0);
        Due.is("2: no pool yet", Nets.underWay(x), 0);
        Due.yes("2: pool", x.pool(0, 9, 9));
        Nets.ticks(x, 3);
        x.deliver(0);
        Due.is("2: an address of the pool", x.message(0, 3), 9);
    }

    private static void attach() {
        BootNet x = new BootNet(20, 3, 4);
        for (int i = 0; i < 6; i++) {
            Due.is("3: station", x.attach(i % 3), i);
            for (int what = 0; what < 8; what++) {
                Nets.station(x, "3: new", i, what, 0);
            }
        }
        Due.is("3: a seventh", x.attach(0), -1);
        Due.is("3: no seventh", x.station(6, 0), BootNet.NONE);
        Nets.ticks(x, 9);
        Nets.station(x, "3: off stays off", 0, Nets.STATE, 0);
        Due.yes("3: the sixth boots", x.boot(5));
        Due.is("3: in the last subnet", x.deliver(0), 0);
        Nets.message(x, "3: behind the relay", 0, 0, 5, 1, 0, 0, 0, 1);
    }

    private static void reserve() {
        BootNet x = new BootNet(20, 3, 4);
        x.attach(1);
        x.attach(1);
        x.attach(2);
        Due.yes("4: n 9", x.reserve(0, 9));
        Due.yes("4: the same again", x.reserve(0, 9));
        Due.no("4: another's", x.reserve(1, 9));
        Due.yes("4: the same n elsewhere", x.reserve(2, 9));
        Due.yes("4: n 1", x.reserve(0, 1));
        Due.yes("4: the older one is free", x.reserve(1, 9));
        Due.no("4: not any more", x.reserve(0, 9));
        x.boot(0);
        x.deliver(0);
        x.deliver(0);
        Due.is("4: a refusal left the reserved one", x.message(0, 3), 11);
    }

    private static void everyAddressCanBeReserved() {
        for (int address : Nets.ADDRESSES) {
            BootNet x = new BootNet(20, 3, 4);
            x.attach(address / 10);
            Due.yes("4: reserve " + address, x.reserve(0, address % 10));
            x.boot(0);
            Nets.settle(x);
            Nets.station(x, "4: it is no pool's", 0, Nets.ADDRESS, address);
        }
    }

    private static void reservedAddressesAreKeptFromOthers() {
        BootNet x = new BootNet(20, 3, 4);
        x.pool(0, 1, 2);
        x.attach(0);
        x.attach(0);
        x.reserve(1, 1);
        x.boot(0);
        x.deliver(0);
        Due.is("4: the first that is not reserved", x.message(0, 3), 2);
        x.boot(1);
        x.deliver(1);
        Due.is("4: the reserved one", x.message(1, 3), 1);
    }

    private static void stranger() {
        BootNet x = new BootNet(20, 3, 4);
        for (int address : Nets.ADDRESSES) {
            Due.no("5: not there " + address, x.stranger(address, false));
            Due.yes("5: takes " + address, x.stranger(address, true));
            Due.no("5: there already " + address, x.stranger(address, true));
            Due.yes("5: leaves " + address, x.stranger(address, false));
            Due.no("5: left already " + address, x.stranger(address, false));
        }
    }

    private static void everyStrangerAnswers() {
        for (int address : Nets.ADDRESSES) {
            for (int taken = 0; taken <= 1; taken++) {
                BootNet x = new BootNet(20, 1, 4);
                x.attach(address / 10);
                x.reserve(0, address % 10);
                x.stranger(address, true);
                x.stranger(address, taken == 1);
                x.boot(0);
                Nets.settle(x);
                Nets.station(x, "5: stranger at " + address + ": " + taken, 0, Nets.STATE, taken == 1 ? 7 : 3);
            }
        }
    }

    private static void putFortyBytes() {
        for (int file = 0; file <= 3; file++) {
            BootNet x = new BootNet(20, 3, 4);
            for (int i = 0; i < 40; i++) {
                Due.yes("6: byte " + i, x.put(file, i % 2 == 0 ? 0 : 255));
            }
            int full = x.check(file);
            Due.no("6: a byte too many", x.put(file, 1));
            Due.is("6: it stays", x.check(file), full);
            Due.yes("6: another file", x.put((file + 1) % 4, 0));
        }
    }

    private static void putTheLeastAndTheGreatestByte() {
        BootNet x = new BootNet(20, 3, 4);
        x.pool(0, 1, 1);
        x.attach(0);
        int[] bytes = {0, 1, 127, 128, 254, 255};
        Nets.putAll(x, 0, bytes);
        x.entry(0, bytes.length, x.check(0));
        Nets.bind(x, 0);
        Nets.settle(x);
        for (int k = 0; k < bytes.length; k++) {
            Due.is("6: byte " + bytes[k] + " comes as it was put", x.image(0, k), bytes[k]);
        }
    }

    private static void entriesOfTheLeastAndTheGreatestLength() {
        BootNet x = new BootNet(60, 3, 12);
        x.pool(0, 1, 1);
        x.attach(0);
        Nets.putCounting(x, 3, 40);
        Due.yes("7: length 40, the last file", x.entry(3, 40, x.check(3)));
        Due.yes("7: length 0, the first file", x.entry(0, 0, 0));
        x.put(0, 1);
        Nets.bind(x, 0);
        Nets.settle(x);
        Nets.station(x, "7: 40 bytes are right", 0, Nets.ENTRY, 1);
        Nets.station(x, "7: one byte is not none", 0, Nets.RESULT, 4);
    }

    private static void fourEntriesOfOneFile() {
        BootNet x = new BootNet(60, 3, 4);
        x.pool(0, 1, 1);
        x.attach(0);
        x.put(2, 77);
        for (int e = 0; e < 4; e++) {
            Due.yes("7: entry " + e, x.entry(2, 1, x.check(2)));
        }
        Due.no("7: a fifth", x.entry(2, 1, x.check(2)));
        Nets.bind(x, 0);
        Nets.settle(x);
        Nets.station(x, "7: all four are loaded", 0, Nets.RESULT, 2);
        Due.is("7: the fourth byte", x.image(0, 3), 77);
        Due.is("7: there is no fifth", x.image(0, 4), BootNet.NONE);
    }

    private static void check() {
        BootNet x = new BootNet(20, 3, 4);
        for (int file = 0; file <= 3; file++) {
            Due.is("8: an empty file", x.check(file), 0);
        }
        Nets.putAll(x, 0, '1', '2', '3', '4', '5', '6', '7', '8', '9');
        Due.is("8: 123456789", x.check(0), 0xCBF43926);
        CRC32 usual = new CRC32();
        for (int i = 0; i < 40; i++) {
            int b = 255 - 6 * i;
            x.put(2, b);
            usual.update(b);
            Due.is("8: after " + i, x.check(2), (int) usual.getValue());
        }
    }

    /** Four bytes can be found for every check by going its steps backwards. */
    private static void checkAtTheEndsOfInt() {
        for (int want : new int[] {Integer.MIN_VALUE, Integer.MIN_VALUE + 1, -1, 0, 1, Integer.MAX_VALUE}) {
            int r = ~want;
            for (int bit = 0; bit < 32; bit++) {
                r = r < 0 ? (r ^ -306674912) << 1 | 1 : r << 1;
            }
            BootNet x = new BootNet(20, 3, 5);
            x.pool(0, 1, 1);
            x.attach(0);
            for (int i = 0; i < 4; i++) {
                x.put(1, (~r >>> 8 * i) & 255);
            }
            Due.is("8: a check at an end of int", x.check(1), want);
            Due.yes("7: such a check", x.entry(1, 4, want));
            Due.yes("7: one that is one more", x.entry(1, 4, want + 1));
            Nets.bind(x, 0);
            Nets.settle(x);
            Nets.station(x, "7: the first check is right: " + want, 0, Nets.ENTRY, 1);
            Nets.station(x, "7: the second check is wrong", 0, Nets.RESULT, 5);
        }
    }
}
