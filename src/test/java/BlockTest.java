/** Blocks at both ends of their size, what begins and ends a transfer, and what begins and ends an entry. */
public final class BlockTest {
    public static void main(String[] args) {
        everyLengthInBlocksOfEverySize();
        lessThanSizeEndsTheTransfer();
        sizeWhenItWasSentLastCounts();
        laterGrowthDoesNotCount();
        blockGrowsBeyondSize();
        gotOfAnotherBlock();
        gotOfAnotherFile();
        gotWithoutATransfer();
        gotOfAnotherStation();
        readOfWhatIsNotThereLeavesTheTransfer();
        oneByteMakesAFile();
        dataOfAnotherBlock();
        dataOfAnotherFile();
        dataWithoutAnAddress();
        errorOfAnotherFile();
        errorWhenAllIsLoaded();
        errorAfterSomeBytes();
        noNextEntry();
        entryComesJustInTime();
        entryComesTooLate();
        wrongEntryIsGotAndStays();
        lengthIsOneOff();
        checkIsOneBitOff();
        fortyBytesAreNotTooMany();
        Due.end();
    }

    private static BootNet net(int size) {
        return Nets.net(60, 3, size, 1, 9);
    }

    /** File 0 with so many bytes is the first entry; the READ of the station is message 0. */
    private static BootNet reading(int size, int length) {
        BootNet x = net(size);
        for (int i = 0; i < length; i++) {
            x.put(0, (37 * i + size) % 256);
        }
        x.entry(0, length, x.check(0));
        Nets.bind(x, 0);
        return x;
    }

    private static void everyLengthInBlocksOfEverySize() {
        for (int size = 4; size <= 12; size++) {
            for (int length = 1; length <= 40; length++) {
                String where = "block: " + length + " bytes by " + size;
                BootNet x = reading(size, length);
                x.deliver(0);
                for (int block = 1; block <= length / size + 1; block++) {
                    int bytes = Math.min(size, length - (block - 1) * size);
                    Nets.message(x, where, 0, 9, 0, 0, 0, block, bytes, 0);
                    Nets.station(x, where + ": loading", 0, Nets.RESULT, 1);
                    x.deliver(0);
                    Nets.station(x, where, 0, Nets.BYTES, (block - 1) * size + bytes);
                    Nets.message(x, where, 0, 10, 0, 0, 0, block, 0, 0);
                    x.deliver(0);
                }
                Nets.station(x, where + ": loaded", 0, Nets.RESULT, 2);
                Due.is(where + ": nothing more", Nets.underWay(x), 0);
                for (int k = 0; k < length; k++) {
                    Due.is(where + ": byte " + k, x.image(0, k), (37 * k + size) % 256);
                }
                Due.is(where + ": no byte more", x.image(0, length), BootNet.NONE);
            }
        }
    }

    /** How many DATA come by time alone in ten ticks, the first of them not before the third. */
    private static int repeatedData(BootNet x) {
        int stay = Nets.underWay(x);
        Nets.ticks(x, 10);
        int data = 0;
        for (int k = stay; x.message(k, 0) != BootNet.NONE; k++) {
            data += x.message(k, 0) == 9 ? 1 : 0;
        }
        return data;
    }

    private static void lessThanSizeEndsTheTransfer() {
        for (int size = 4; size <= 12; size += 4) {
            for (int length : new int[] {1, size - 1, size, size + 1, 2 * size}) {
                for (int arrives = 0; arrives <= 1; arrives++) {
                    BootNet x = reading(size, length);
                    x.deliver(0);
                    Nets.deliver(x, 0, 2 * (length / size));
                    x.deliver(0);
                    Nets.message(x, "block: the last GOT", 0, 10, 0, 0, 0, length / size + 1, 0, 0);
                    if (arrives == 1) {
                        x.deliver(0);
                    }
                    Due.is("block: sent again, " + length + " by " + size, repeatedData(x), arrives == 1 ? 0 : 2);
                }
            }
        }
    }

    private static void sizeWhenItWasSentLastCounts() {
        BootNet x = reading(4, 3);
        x.deliver(0);
        x.deliver(0);
        x.put(0, 99);
        Nets.ticks(x, 3);
        Nets.message(x, "block: sent again with SIZE bytes", 1, 9, 0, 0, 0, 1, 4, 0);
        Due.is("block: GOT of the shorter one", x.deliver(0), 10);
        Nets.message(x, "block: the next block", 1, 9, 0, 0, 0, 2, 0, 0);
    }

    private static void laterGrowthDoesNotCount() {
        BootNet x = reading(4, 3);
        x.deliver(0);
        x.put(0, 99);
        Due.is("block: three bytes are under way", x.message(0, 5), 3);
        x.deliver(0);
        Nets.station(x, "block: three bytes came", 0, Nets.RESULT, 2);
        Due.is("block: GOT", x.deliver(0), 10);
        Due.is("block: the transfer is gone", Nets.underWay(x), 0);
        Due.is("block: for good", repeatedData(x), 0);
    }

    private static void blockGrowsBeyondSize() {
        BootNet x = net(4);
        Nets.putCounting(x, 0, 3);
        x.put(1, 3);
        Nets.putAll(x, 2, 0, 1, 2, 3, 4);
        x.entry(0, 5, x.check(2));
        Nets.bind(x, 0);
        x.deliver(0);
        Nets.loseAll(x);
        Nets.putAll(x, 0, 3, 4);
        Nets.ticks(x, 3);
        Nets.message(x, "block: READ again", 0, 8);
        Nets.message(x, "block: SIZE bytes of five", 1, 9, 0, 0, 0, 1, 4, 0);
        x.deliver(1);
        Nets.station(x, "block: SIZE bytes are not the end", 0, Nets.RESULT, 1);
        x.deliver(1);
        Nets.message(x, "block: the fifth", 1, 9, 0, 0, 0, 2, 1, 0);
        x.deliver(1);
        Nets.station(x, "block: all is loaded", 0, Nets.RESULT, 2);
    }

    private static void gotOfAnotherBlock() {
        BootNet x = reading(4, 12);
        Nets.deliver(x, 0, 2);
        x.alter(0, true);
        x.deliver(0);
        Nets.message(x, "block: GOT of block 1", 0, 10, 0, 0, 0, 1, 0, 0);
        Nets.message(x, "block: block 2", 1, 9, 0, 0, 0, 2, 4, 0);
        Due.is("block: GOT of the block before", x.deliver(0), 10);
        Due.is("block: nothing is sent", Nets.underWay(x), 1);

        BootNet y = reading(4, 12);
        y.alter(0, true);
        Nets.deliver(y, 1, 4);
        Nets.message(y, "block: GOT of block 2", 1, 10, 0, 0, 0, 2, 0, 0);
        Due.is("block: READ again", y.deliver(0), 8);
        Nets.message(y, "block: block 1", 1, 9, 0, 0, 0, 1, 4, 0);
        Due.is("block: GOT of the block behind", y.deliver(0), 10);
        Due.is("block: nothing is sent", Nets.underWay(y), 1);
    }

    private static void gotOfAnotherFile() {
        BootNet x = net(4);
        Nets.putAll(x, 0, 1, 2);
        Nets.putCounting(x, 1, 8);
        x.entry(0, 2, x.check(0));
        x.entry(1, 8, x.check(1));
        Nets.bind(x, 0);
        Nets.deliver(x, 0, 2);
        Nets.message(x, "block: GOT of file 0", 0, 10, 0, 0, 0, 1, 0, 0);
        Due.is("block: READ of file 1", x.deliver(1), 8);
        Nets.message(x, "block: block 1 of file 1", 1, 9, 0, 0, 1, 1, 4, 0);
        Due.is("block: GOT of file 0", x.deliver(0), 10);
        Due.is("block: nothing is sent", Nets.underWay(x), 1);
        Nets.settle(x);
        Nets.station(x, "block: the transfer is there still", 0, Nets.RESULT, 2);
    }

    private static void gotWithoutATransfer() {
        BootNet x = reading(4, 8);
        Nets.deliver(x, 0, 2);
        x.crash();
        Due.is("block: GOT after a crash", x.deliver(0), 10);
        Due.is("block: nothing is sent", Nets.underWay(x), 0);

        BootNet y = reading(4, 3);
        Nets.deliver(y, 0, 2);
        y.alter(0, true);
        y.deliver(0);
        Due.is("block: GOT after the end", y.deliver(0), 10);
        Due.is("block: nothing is sent", Nets.underWay(y), 0);
    }

    private static void gotOfAnotherStation() {
        BootNet x = net(4);
        x.attach(0);
        Nets.putCounting(x, 0, 8);
        x.entry(0, 8, x.check(0));
        x.boot(0);
        x.boot(1);
        Nets.settle(x);
        Nets.ticks(x, 3);
        Nets.deliver(x, 0, 2);
        Nets.message(x, "block: block 1 of each", 0, 9, 0, 0, 0, 1, 4, 0);
        Nets.message(x, "block: block 1 of each", 1, 9, 1, 0, 0, 1, 4, 0);
        x.deliver(0);
        Due.is("block: GOT of station 0", x.deliver(1), 10);
        Nets.message(x, "block: block 2 of station 0 alone", 1, 9, 0, 0, 0, 2, 4, 0);
        Nets.loseAll(x);
        Nets.ticks(x, 3);
        Nets.message(x, "block: station 1 reads again", 0, 8, 1);
        Nets.message(x, "block: block 2 of station 0 again", 1, 9, 0, 0, 0, 2, 4, 0);
        Nets.message(x, "block: block 1 of station 1 again", 2, 9, 1, 0, 0, 1, 4, 0);
    }

    private static void readOfWhatIsNotThereLeavesTheTransfer() {
        BootNet x = net(4);
        Nets.putAll(x, 0, 1, 2);
        x.entry(0, 2, x.check(0));
        x.entry(1, 1, 0);
        Nets.bind(x, 0);
        Nets.deliver(x, 0, 2);
        Due.is("block: READ of file 1", x.deliver(1), 8);
        Nets.message(x, "block: ERROR", 1, 11, 0, 0, 1, 0, 0, 0);
        x.deliver(1);
        Nets.station(x, "block: a file is not there", 0, Nets.RESULT, 3);
        x.tick();
        x.tick();
        Due.is("block: the other transfer goes on", x.tick(), 2);
        Nets.message(x, "block: block 1 of file 0", 1, 9, 0, 0, 0, 1, 2, 0);
    }

    private static void oneByteMakesAFile() {
        BootNet x = net(4);
        x.entry(2, 1, 0);
        Nets.bind(x, 0);
        x.alter(0, true);
        Due.is("block: READ of no bytes", x.deliver(0), 8);
        Due.is("block: ERROR", x.message(1, 0), 11);
        x.put(2, 0);
        Due.is("block: READ of one byte", x.deliver(0), 8);
        Nets.message(x, "block: DATA", 1, 9, 0, 0, 2, 1, 1, 0);
    }

    private static void dataOfAnotherBlock() {
        BootNet x = reading(4, 12);
        x.deliver(0);
        x.alter(0, true);
        Nets.deliver(x, 1, 2);
        Nets.message(x, "block: block 1", 0, 9, 0, 0, 0, 1, 4, 0);
        Nets.message(x, "block: block 2", 1, 9, 0, 0, 0, 2, 4, 0);
        Due.is("block: the block before", x.deliver(0), 9);
        Nets.station(x, "block: does nothing", 0, Nets.BYTES, 4);
        Due.is("block: no GOT", Nets.underWay(x), 1);

        BootNet y = reading(4, 12);
        Nets.deliver(y, 0, 3);
        Nets.message(y, "block: block 2", 0, 9, 0, 0, 0, 2, 4, 0);
        y.boot(0);
        Nets.deliver(y, 1, 5);
        Nets.ticks(y, 3);
        Nets.station(y, "block: it loads again", 0, Nets.RESULT, 1);
        int count = Nets.underWay(y);
        Due.is("block: the block behind", y.deliver(0), 9);
        Nets.station(y, "block: does nothing", 0, Nets.BYTES, 0);
        Due.is("block: no GOT", Nets.underWay(y), count - 1);
    }

    private static void dataOfAnotherFile() {
        BootNet x = net(4);
        Nets.putAll(x, 0, 1, 2);
        Nets.putAll(x, 1, 3, 4);
        x.entry(0, 2, x.check(0));
        x.entry(1, 2, x.check(1));
        Nets.bind(x, 0);
        x.deliver(0);
        x.alter(0, true);
        x.deliver(0);
        Nets.station(x, "block: at the second entry", 0, Nets.ENTRY, 1);
        Due.is("block: DATA of the first", x.deliver(0), 9);
        Nets.station(x, "block: does nothing", 0, Nets.BYTES, 0);
        Nets.station(x, "block: loading still", 0, Nets.RESULT, 1);
        Due.is("block: GOT and READ alone", Nets.underWay(x), 2);
    }

    private static void dataWithoutAnAddress() {
        BootNet x = reading(4, 3);
        x.deliver(0);
        x.boot(0);
        for (int state = 1; state <= 3; state++) {
            Nets.station(x, "block: no address held", 0, Nets.STATE, state);
            x.alter(0, true);
            int last = Nets.underWay(x) - 1;
            Due.is("block: DATA in state " + state, x.deliver(last), 9);
            Nets.station(x, "block: does nothing", 0, Nets.BYTES, 0);
            Due.is("block: no GOT", Nets.underWay(x), last);
            Nets.deliver(x, 1, 2);
        }
        Nets.ticks(x, 3);
        Due.is("block: DATA when it holds one", x.deliver(0), 9);
        Nets.station(x, "block: is what it waits for", 0, Nets.RESULT, 2);
    }

    private static void errorOfAnotherFile() {
        BootNet x = net(4);
        x.entry(1, 1, 0);
        Nets.bind(x, 0);
        x.alter(0, true);
        x.deliver(0);
        Due.is("block: ERROR of file 1", x.message(1, 0), 11);
        Nets.putAll(x, 1, 6);
        x.boot(0);
        Nets.station(x, "block: ERROR in state 1", 0, Nets.STATE, 1);
        x.alter(1, true);
        x.deliver(3);
        Nets.station(x, "block: does nothing", 0, Nets.RESULT, 0);

        BootNet y = net(4);
        y.put(0, 1);
        y.entry(2, 1, y.check(0));
        y.entry(0, 1, y.check(0));
        Nets.bind(y, 0);
        y.alter(0, true);
        y.deliver(0);
        y.put(2, 1);
        y.deliver(0);
        Due.is("block: ERROR of file 2", y.message(0, 0), 11);
        Due.is("block: DATA of file 2", y.deliver(1), 9);
        Nets.station(y, "block: at the second entry", 0, Nets.ENTRY, 1);
        Due.is("block: ERROR of the first", y.deliver(0), 11);
        Nets.station(y, "block: does nothing", 0, Nets.RESULT, 1);
    }

    private static void errorWhenAllIsLoaded() {
        BootNet x = net(4);
        x.put(0, 1);
        x.entry(2, 1, x.check(0));
        Nets.bind(x, 0);
        x.alter(0, true);
        x.deliver(0);
        x.put(2, 1);
        x.deliver(0);
        x.deliver(1);
        Nets.station(x, "block: all is loaded", 0, Nets.RESULT, 2);
        Due.is("block: ERROR comes late", x.deliver(0), 11);
        Nets.station(x, "block: does nothing", 0, Nets.RESULT, 2);
    }

    /** The ERROR is from before the file was there, and comes when one block of it is loaded. */
    private static void errorAfterSomeBytes() {
        BootNet x = net(4);
        x.entry(2, 8, 0);
        Nets.bind(x, 0);
        x.alter(0, true);
        x.deliver(0);
        Nets.putCounting(x, 2, 8);
        x.deliver(0);
        x.deliver(1);
        Nets.station(x, "block: one block", 0, Nets.BYTES, 4);
        Due.is("block: ERROR", x.deliver(0), 11);
        Nets.station(x, "block: a file is not there", 0, Nets.RESULT, 3);
        Nets.station(x, "block: the bytes stay", 0, Nets.BYTES, 4);
        Due.is("block: the last of them", x.image(0, 3), 3);
    }

    private static void noNextEntry() {
        for (int entries = 0; entries <= 4; entries++) {
            BootNet x = net(4);
            x.put(3, 5);
            for (int e = 0; e < entries; e++) {
                x.entry(3, 1, x.check(3));
            }
            Nets.bind(x, 0);
            for (int e = 0; e < entries; e++) {
                Nets.station(x, "block: loading of " + entries, 0, Nets.RESULT, 1);
                Nets.station(x, "block: entry of " + entries, 0, Nets.ENTRY, e);
                Nets.message(x, "block: READ", 0, 8, 0, 0, 3, 0, 0, 0);
                Nets.deliver(x, 0, 2);
                Due.is("block: GOT", x.deliver(0), 10);
            }
            Nets.station(x, "block: all of " + entries, 0, Nets.RESULT, 2);
            Nets.station(x, "block: at the last of " + entries, 0, Nets.ENTRY, Math.max(0, entries - 1));
            Nets.station(x, "block: its bytes", 0, Nets.BYTES, Math.min(1, entries));
            Due.is("block: nothing more is read", Nets.underWay(x), 0);
            Due.is("block: the last byte", x.image(0, entries - 1), entries == 0 ? BootNet.NONE : 5);
            Due.is("block: behind it", x.image(0, entries), BootNet.NONE);
        }
    }

    private static void entryComesJustInTime() {
        BootNet x = reading(4, 2);
        x.deliver(0);
        Due.yes("block: a second entry", x.entry(0, 2, x.check(0)));
        x.deliver(0);
        Nets.station(x, "block: is loaded too", 0, Nets.RESULT, 1);
        Nets.station(x, "block: is loaded too", 0, Nets.ENTRY, 1);
    }

    private static void entryComesTooLate() {
        BootNet x = reading(4, 2);
        x.deliver(0);
        x.deliver(0);
        Due.yes("block: a second entry", x.entry(0, 2, x.check(0)));
        Nets.settle(x);
        Nets.ticks(x, 9);
        Nets.station(x, "block: is not loaded", 0, Nets.RESULT, 2);
        Nets.station(x, "block: is not loaded", 0, Nets.ENTRY, 0);
        Due.is("block: nothing is sent", Nets.underWay(x), 0);
    }

    private static void wrongEntryIsGotAndStays() {
        for (int result = 4; result <= 5; result++) {
            BootNet x = net(4);
            Nets.putCounting(x, 0, 3);
            x.entry(0, result == 4 ? 2 : 3, 1);
            x.entry(0, 3, x.check(0));
            Nets.bind(x, 0);
            Nets.deliver(x, 0, 2);
            Nets.station(x, "block: wrong", 0, Nets.RESULT, result);
            Nets.station(x, "block: at the entry that is wrong", 0, Nets.ENTRY, 0);
            Nets.station(x, "block: its bytes stay", 0, Nets.BYTES, 3);
            Due.is("block: the last of them", x.image(0, 2), 2);
            Nets.message(x, "block: GOT all the same", 0, 10, 0, 0, 0, 1, 0, 0);
            Due.is("block: no READ", Nets.underWay(x), 1);
        }
    }

    private static int resultOf(int size, int bytes, int length, int checkMask) {
        BootNet x = net(size);
        Nets.putCounting(x, 0, bytes);
        x.entry(0, length, x.check(0) ^ checkMask);
        Nets.bind(x, 0);
        Nets.settle(x);
        return x.station(0, Nets.RESULT);
    }

    private static void lengthIsOneOff() {
        for (int bytes : new int[] {1, 3, 4, 5, 8, 39, 40}) {
            Due.is("block: too few, " + bytes, resultOf(4, bytes, Math.min(40, bytes + 1), 0), bytes == 40 ? 2 : 4);
            Due.is("block: as many, " + bytes, resultOf(4, bytes, bytes, 0), 2);
            Due.is("block: too many, " + bytes, resultOf(4, bytes, bytes - 1, 0), 4);
            Due.is("block: length goes before check, " + bytes, resultOf(4, bytes, bytes - 1, 1), 4);
        }
    }

    private static void checkIsOneBitOff() {
        for (int bit = 0; bit < 32; bit++) {
            Due.is("block: bit " + bit + " of the check", resultOf(4, 6, 6, 1 << bit), 5);
        }
    }

    private static void fortyBytesAreNotTooMany() {
        for (int size : new int[] {4, 5, 8, 10}) {
            BootNet x = reading(size, 40);
            x.deliver(0);
            Nets.deliver(x, 0, 2 * (40 / size) - 1);
            Nets.station(x, "block: 40 bytes in whole blocks", 0, Nets.BYTES, 40);
            Nets.station(x, "block: loading still", 0, Nets.RESULT, 1);
            x.deliver(0);
            Nets.message(x, "block: a block of none", 0, 9, 0, 0, 0, 40 / size + 1, 0, 0);
            x.deliver(0);
            Nets.station(x, "block: all is loaded", 0, Nets.RESULT, 2);
        }
    }
}
