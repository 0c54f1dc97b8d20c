/** Promises 12, 15 and 16 about loading: blocks, transfers, results and the image. */
public final class LoadTest {
    public static void main(String[] args) {
        severalEntries();
        fileOfWholeBlocks();
        fourFullFiles();
        emptyList();
        results();
        noAnswer();
        laterBlocksAreNotReadAgain();
        transferIsRepeatedAndGivenUp();
        aNewReadBeginsAgain();
        blockGrowsBetweenTries();
        doubledDataAndGot();
        loadingBeginsAgainAfterTheAddressIsLost();
        loadedOnceIsEnough();
        whatHasEndedIsNotLoadedAgain();
        noAddressGoesBeforeEveryResult();
        Due.end();
    }

    private static BootNet net(int lease, int limit, int size) {
        return Nets.net(lease, limit, size, 1, 9);
    }

    private static void severalEntries() {
        BootNet x = new BootNet(40, 3, 5);
        x.pool(2, 4, 4);
        x.attach(2);
        Nets.putAll(x, 3, 250, 251, 252, 253, 254, 255);
        Nets.putAll(x, 1, 9);
        x.entry(3, 6, x.check(3));
        x.entry(1, 1, x.check(1));
        x.entry(3, 6, x.check(3));
        Nets.bind(x, 0);
        Nets.message(x, "12: READ", 0, 8, 0, 0, 3, 0, 0, 0);
        x.deliver(0);
        x.deliver(0);
        Nets.message(x, "14: DATA goes over the relay", 0, 9, 0, 0, 3, 1, 5, 1);
        x.deliver(0);
        Nets.message(x, "14: with its bytes", 0, 9, 0, 0, 3, 1, 5, 0);
        x.deliver(0);
        Nets.message(x, "10: GOT", 0, 10, 0, 0, 3, 1, 0, 0);
        Nets.station(x, "15: bytes of the entry", 0, Nets.BYTES, 5);
        Due.is("16: byte 4", x.image(0, 4), 254);
        Due.is("16: byte 5 is not there", x.image(0, 5), BootNet.NONE);
        Nets.settle(x);
        Nets.station(x, "15: all is loaded", 0, Nets.RESULT, 2);
        Nets.station(x, "15: at the last entry", 0, Nets.ENTRY, 2);
        Nets.station(x, "15: with its bytes", 0, Nets.BYTES, 6);
        int[] want = {250, 251, 252, 253, 254, 255, 9, 250, 251, 252, 253, 254, 255, BootNet.NONE};
        for (int k = 0; k < want.length; k++) {
            Due.is("16: byte " + k, x.image(0, k), want[k]);
        }
        Nets.ticks(x, 12);
        Due.is("12: no transfer is left", Nets.underWay(x), 0);
    }

    private static void fileOfWholeBlocks() {
        for (int size = 4; size <= 12; size++) {
            BootNet x = net(60, 3, size);
            Nets.putCounting(x, 0, 40);
            x.entry(0, 40, x.check(0));
            Nets.bind(x, 0);
            int blocks = 0;
            int last = -1;
            for (int i = 0; i < 100 && x.deliver(0) != BootNet.NONE; i++) {
                if (x.message(0, 0) == 9) {
                    blocks++;
                    last = x.message(0, 5);
                }
            }
            Due.is("10: blocks of " + size, blocks, 40 / size + 1);
            Due.is("14: bytes of the last", last, 40 % size);
            Nets.station(x, "15: size " + size, 0, Nets.RESULT, 2);
            Due.is("16: the last byte", x.image(0, 39), 39);
        }
    }

    private static void fourFullFiles() {
        BootNet x = net(60, 3, 12);
        for (int file = 0; file < 4; file++) {
            Nets.putCounting(x, file, 40);
            x.entry(file, 40, x.check(file));
        }
        Nets.bind(x, 0);
        Nets.settle(x);
        Nets.station(x, "15: all is loaded", 0, Nets.RESULT, 2);
        Nets.station(x, "15: at the last entry", 0, Nets.ENTRY, 3);
        for (int k = 0; k < 160; k++) {
            Due.is("16: byte " + k, x.image(0, k), k % 40);
        }
        Due.is("16: no more", x.image(0, 160), BootNet.NONE);
    }

    private static void emptyList() {
        BootNet x = net(20, 3, 4);
        x.boot(0);
        Nets.settle(x);
        Nets.ticks(x, 2);
        Nets.station(x, "12: probing", 0, Nets.STATE, 3);
        Nets.station(x, "12: nothing yet", 0, Nets.RESULT, 0);
        Due.is("12: nothing is sent", x.tick(), 0);
        Nets.station(x, "12: bound", 0, Nets.STATE, 4);
        Nets.station(x, "12: all is loaded", 0, Nets.RESULT, 2);
    }

    private static int resultOf(int length, int checkOff, boolean put, int size) {
        BootNet x = net(40, 3, size);
        if (put) {
            Nets.putAll(x, 2, 5, 6, 7, 8);
        }
        x.entry(2, length, x.check(2) + checkOff);
        Nets.bind(x, 0);
        Nets.station(x, "12: loading", 0, Nets.RESULT, 1);
        Nets.settle(x);
        return x.station(0, Nets.RESULT);
    }

    private static void results() {
        Due.is("15: right", resultOf(4, 0, true, 5), 2);
        Due.is("15: right, with an empty block", resultOf(4, 0, true, 4), 2);
        Due.is("15: no file", resultOf(4, 0, false, 5), 3);
        Due.is("15: no file, though it would be empty", resultOf(0, 0, false, 5), 3);
        Due.is("15: too short", resultOf(5, 0, true, 5), 4);
        Due.is("15: too long", resultOf(3, 0, true, 4), 4);
        Due.is("15: length goes before check", resultOf(3, 1, true, 5), 4);
        Due.is("15: another check", resultOf(4, 1, true, 5), 5);
        BootNet x = net(40, 3, 4);
        x.entry(1, 0, 0);
        Nets.bind(x, 0);
        x.deliver(0);
        Nets.message(x, "14: ERROR", 0, 11, 0, 0, 1, 0, 0, 0);
        x.alter(0, true);
        x.deliver(0);
        x.boot(0);
        x.deliver(0);
        Nets.station(x, "10: ERROR without an address", 0, Nets.RESULT, 0);
    }

    private static void noAnswer() {
        BootNet x = net(60, 3, 4);
        x.put(0, 1);
        x.entry(0, 1, x.check(0));
        Nets.bind(x, 0);
        Nets.loseAll(x);
        Nets.ticks(x, 2);
        Due.is("12: READ again", x.tick(), 1);
        Nets.message(x, "12: READ again", 0, 8, 0, 0, 0, 0, 0, 0);
        Nets.ticks(x, 2);
        Due.is("12: and again", x.tick(), 2);
        Nets.ticks(x, 2);
        Nets.station(x, "12: loading still", 0, Nets.RESULT, 1);
        Due.is("12: not a fourth time", x.tick(), 2);
        Nets.station(x, "12: no answer", 0, Nets.RESULT, 6);
        Nets.station(x, "12: bound still", 0, Nets.STATE, 4);
        Nets.settle(x);
        Nets.station(x, "10: DATA comes too late", 0, Nets.RESULT, 6);
        Nets.station(x, "10: no bytes", 0, Nets.BYTES, 0);
    }

    private static void laterBlocksAreNotReadAgain() {
        BootNet x = net(60, 2, 4);
        Nets.putCounting(x, 0, 6);
        x.entry(0, 6, x.check(0));
        Nets.bind(x, 0);
        x.deliver(0);
        x.deliver(0);
        Nets.loseAll(x);
        Due.is("12: waits", x.tick(), 0);
        x.crash();
        Nets.ticks(x, 2);
        Due.is("12: no READ at block 2", Nets.underWay(x), 0);
        Nets.station(x, "12: loading still", 0, Nets.RESULT, 1);
        Nets.ticks(x, 3);
        Nets.station(x, "12: no answer", 0, Nets.RESULT, 6);
        Nets.station(x, "12: the bytes stay", 0, Nets.BYTES, 4);
        Due.is("16: they can be seen", x.image(0, 3), 3);
    }

    private static void transferIsRepeatedAndGivenUp() {
        BootNet x = net(60, 3, 4);
        x.attach(0);
        Nets.putCounting(x, 0, 5);
        x.entry(0, 5, x.check(0));
        Nets.bind(x, 0);
        x.deliver(0);
        x.deliver(0);
        x.deliver(0);
        Nets.message(x, "10: block 2", 0, 9, 0, 0, 0, 2, 1, 0);
        Nets.loseAll(x);
        Nets.ticks(x, 2);
        Due.is("12: block 2 again", x.tick(), 1);
        Nets.message(x, "12: block 2 again", 0, 9, 0, 0, 0, 2, 1, 0);
        Nets.loseAll(x);
        Nets.ticks(x, 2);
        Due.is("12: a third time", x.tick(), 1);
        Nets.loseAll(x);
        Nets.ticks(x, 3);
        Due.is("12: the transfer is gone", Nets.underWay(x), 0);
        Nets.ticks(x, 3);
        Due.is("12: for good", Nets.underWay(x), 0);
    }

    private static void aNewReadBeginsAgain() {
        BootNet x = net(60, 2, 4);
        Nets.putCounting(x, 0, 5);
        x.entry(0, 5, x.check(0));
        Nets.bind(x, 0);
        x.alter(0, true);
        x.deliver(0);
        x.tick();
        x.deliver(0);
        Due.is("10: two blocks 1", Nets.underWay(x), 2);
        Nets.loseAll(x);
        x.tick();
        Due.is("12: due from the second READ on; READ again", x.tick(), 1);
        Due.is("12: block 1 again", x.tick(), 2);
        Nets.message(x, "12: READ", 0, 8);
        Nets.message(x, "12: DATA", 1, 9, 0, 0, 0, 1, 4);
        Nets.loseAll(x);
        Nets.ticks(x, 3);
        Due.is("12: tries were 2", Nets.underWay(x), 0);
    }

    private static void blockGrowsBetweenTries() {
        BootNet x = net(60, 3, 4);
        Nets.putAll(x, 0, 1, 2, 3);
        x.put(1, 0);
        x.entry(0, 3, x.check(0));
        Nets.bind(x, 0);
        x.deliver(0);
        Due.is("14: three bytes", x.message(0, 5), 3);
        x.put(0, 4);
        Due.is("14: what is under way stays", x.message(0, 5), 3);
        Nets.ticks(x, 3);
        Due.is("14: READ again, block again with four bytes", x.message(2, 5), 4);
        x.deliver(0);
        Nets.station(x, "10: three bytes came", 0, Nets.RESULT, 2);
        Due.is("10: GOT", x.message(2, 0), 10);
        x.deliver(2);
        Nets.message(x, "10: the block was full when it was sent last", 2, 9, 0, 0, 0, 2, 0, 0);
    }

    private static void doubledDataAndGot() {
        BootNet x = net(60, 3, 4);
        Nets.putCounting(x, 0, 9);
        x.entry(0, 9, x.check(0));
        Nets.bind(x, 0);
        x.deliver(0);
        x.alter(0, true);
        x.deliver(0);
        Due.is("10: DATA again", x.deliver(0), 9);
        Nets.station(x, "10: does nothing", 0, Nets.BYTES, 4);
        Due.is("10: one GOT", Nets.underWay(x), 1);
        x.alter(0, true);
        x.deliver(0);
        Due.is("10: GOT again", x.deliver(0), 10);
        Due.is("10: does nothing", Nets.underWay(x), 1);
        Nets.message(x, "10: block 2", 0, 9, 0, 0, 0, 2, 4, 0);
        Nets.settle(x);
        Nets.station(x, "15: all is loaded", 0, Nets.RESULT, 2);
    }

    private static void loadingBeginsAgainAfterTheAddressIsLost() {
        BootNet x = net(8, 5, 4);
        x.put(1, 33);
        Nets.putCounting(x, 0, 9);
        x.entry(1, 1, x.check(1));
        x.entry(0, 9, x.check(0));
        Nets.bind(x, 0);
        for (int i = 0; i < 5; i++) {
            x.deliver(0);
        }
        Nets.station(x, "15: second entry", 0, Nets.ENTRY, 1);
        Nets.station(x, "15: its bytes", 0, Nets.BYTES, 4);
        Nets.loseAll(x);
        Nets.ticks(x, 5);
        Nets.station(x, "12: the lease is over", 0, Nets.STATE, 1);
        Nets.station(x, "12: loading is nothing", 0, Nets.RESULT, 0);
        Nets.station(x, "15: the entry stays", 0, Nets.ENTRY, 1);
        Nets.station(x, "15: the bytes stay", 0, Nets.BYTES, 4);
        Due.is("16: they can be seen", x.image(0, 4), 3);
        x.crash();
        Nets.settle(x);
        Nets.ticks(x, 3);
        Nets.station(x, "12: bound again", 0, Nets.STATE, 4);
        Nets.station(x, "12: loading again", 0, Nets.RESULT, 1);
        Nets.station(x, "12: from the first entry", 0, Nets.ENTRY, 0);
        Nets.station(x, "12: without bytes", 0, Nets.BYTES, 0);
        Due.is("16: none", x.image(0, 0), BootNet.NONE);
        Nets.settle(x);
        Nets.station(x, "15: all is loaded", 0, Nets.RESULT, 2);
        Due.is("16: first", x.image(0, 0), 33);
        Due.is("16: last", x.image(0, 9), 8);
    }

    /** A list that comes to each result, with one entry of a file of four bytes. */
    private static BootNet endedWith(int result) {
        BootNet x = net(12, 1, 5);
        if (result != 3) {
            Nets.putAll(x, 0, 1, 2, 3, 4);
        }
        x.entry(0, result == 4 ? 5 : 4, result == 5 ? 0 : x.check(0));
        Nets.bind(x, 0);
        if (result == 6) {
            x.alter(0, false);
        }
        Nets.settle(x);
        Nets.ticks(x, 9);
        Nets.station(x, "12: the lease is over", 0, Nets.STATE, 1);
        return x;
    }

    private static void whatHasEndedIsNotLoadedAgain() {
        for (int result = 2; result <= 6; result++) {
            BootNet x = endedWith(result);
            int bytes = x.station(0, Nets.BYTES);
            Nets.station(x, "12: selecting leaves the result", 0, Nets.RESULT, result);
            Nets.settle(x);
            Nets.ticks(x, 3);
            Nets.station(x, "12: bound again", 0, Nets.STATE, 4);
            Nets.station(x, "12: the result is not 0, so nothing is loaded", 0, Nets.RESULT, result);
            Nets.station(x, "12: the bytes stay", 0, Nets.BYTES, bytes);
            Due.is("12: nothing is read", Nets.underWay(x), 0);
        }
    }

    private static void noAddressGoesBeforeEveryResult() {
        for (int result = 2; result <= 6; result++) {
            BootNet x = endedWith(result);
            Nets.ticks(x, 2);
            Nets.station(x, "12: not yet", 0, Nets.RESULT, result);
            x.tick();
            Nets.station(x, "12: failed", 0, Nets.STATE, 7);
            Nets.station(x, "12: no address", 0, Nets.RESULT, 7);
            x.boot(0);
            Nets.station(x, "9: nothing yet", 0, Nets.RESULT, 0);
        }
    }

    private static void loadedOnceIsEnough() {
        BootNet x = net(8, 5, 4);
        x.put(0, 1);
        x.entry(0, 1, x.check(0));
        Nets.bind(x, 0);
        Nets.settle(x);
        Nets.ticks(x, 5);
        Nets.station(x, "12: selecting", 0, Nets.STATE, 1);
        Nets.station(x, "12: the result stays", 0, Nets.RESULT, 2);
        x.put(0, 2);
        Nets.settle(x);
        Nets.ticks(x, 3);
        Nets.station(x, "12: bound again", 0, Nets.STATE, 4);
        Nets.station(x, "12: loaded already", 0, Nets.RESULT, 2);
    }
}
