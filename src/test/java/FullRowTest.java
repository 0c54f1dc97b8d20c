/** MESSAGES: "at most 32; what is sent when 32 are there is lost", for each one that sends. */
public final class FullRowTest {
    private static final int LAST = 31;

    public static void main(String[] args) {
        copiesUpTo32();
        bootWith31And32();
        tickWith31();
        tickWith32();
        lostDoesNotComeBack();
        whatLeavesMakesRoomForOneAnswer();
        relayHasRoomBothWays();
        declineHasRoomAndDiscoverHasNot();
        gotHasRoomAndReadHasNot();
        readAgainIsLost();
        blockThatIsLostWasSent();
        askThatIsLostWasSent();
        blockThatIsLostIsATry(false);
        blockThatIsLostIsATry(true);
        firstReadIsLost();
        renewalIsLost();
        discoverAtTheEndIsLost();
        Due.end();
    }

    private static BootNet net(int limit, int subnet) {
        BootNet x = new BootNet(60, limit, 4);
        x.pool(subnet, 1, 9);
        x.attach(subnet);
        return x;
    }

    private static void copiesUpTo32() {
        BootNet x = net(3, 0);
        x.boot(0);
        for (int count = 2; count <= 32; count++) {
            Due.yes("row: a copy makes " + count, x.alter(0, true));
            Nets.message(x, "row: it is the last", count - 1, 0, 0, 1);
            Due.is("row: nothing behind it", x.message(count, 0), BootNet.NONE);
        }
        Due.no("row: a 33rd", x.alter(0, true));
        Due.is("row: 32 are there", Nets.underWay(x), 32);
        Due.is("row: a tick tells them", x.tick(), 32);
    }

    private static void bootWith31And32() {
        BootNet x = net(3, 0);
        x.boot(0);
        Nets.fillTo(x, 0, 31);
        Due.yes("row: boot with 31", x.boot(0));
        Due.is("row: 32", Nets.underWay(x), 32);
        Nets.message(x, "row: the last one", LAST, 0, 0, 2, 0, 0, 0, 0);
        Due.yes("row: boot with 32", x.boot(0));
        Due.is("row: 32 still", Nets.underWay(x), 32);
        Nets.message(x, "row: the last one stays", LAST, 0, 0, 2, 0, 0, 0, 0);
        Nets.message(x, "row: the first one stays", 0, 0, 0, 1, 0, 0, 0, 0);
        Nets.station(x, "row: it selects all the same", 0, Nets.STATE, 1);
        Nets.station(x, "row: with a new number", 0, Nets.NUMBER, 3);
    }

    private static void tickWith31() {
        BootNet x = net(2, 0);
        x.attach(0);
        x.boot(0);
        x.boot(1);
        Nets.fillTo(x, 1, 31);
        Due.is("row: nothing is due", x.tick() + x.tick(), 62);
        Due.is("row: two are due", x.tick(), 32);
        Nets.message(x, "row: the least station's has room", LAST, 0, 0, 1);
        Nets.message(x, "row: the other's has none", LAST - 1, 0, 1, 2);
        Nets.ticks(x, 2);
        Nets.station(x, "row: lost counts as a try, not yet", 1, Nets.STATE, 1);
        x.tick();
        Nets.station(x, "row: lost counts as a try", 1, Nets.STATE, 7);
    }

    private static void tickWith32() {
        BootNet x = net(3, 0);
        x.boot(0);
        Nets.fillTo(x, 0, 32);
        String before = messages(x);
        for (int t = 1; t <= 8; t++) {
            Due.is("row: 32 at tick " + t, x.tick(), 32);
        }
        Due.yes("row: the same 32", messages(x).equals(before));
    }

    private static String messages(BootNet x) {
        StringBuilder all = new StringBuilder();
        for (int k = 0; k <= 32; k++) {
            for (int what = 0; what <= 6; what++) {
                all.append(x.message(k, what)).append(' ');
            }
        }
        return all.toString();
    }

    private static void lostDoesNotComeBack() {
        BootNet x = net(3, 0);
        x.boot(0);
        Nets.fillTo(x, 0, 32);
        x.boot(0);
        Due.yes("row: one is lost", x.alter(0, false));
        Due.is("row: 31", Nets.underWay(x), 31);
        Due.is("row: 31 after a tick", x.tick(), 31);
        Nets.loseAll(x);
        Due.is("row: none after a tick", x.tick(), 0);
        Due.is("row: sent again when it is due", x.tick(), 1);
        Nets.message(x, "row: with the number of the lost one", 0, 0, 0, 2, 0, 0, 0, 0);
    }

    private static void whatLeavesMakesRoomForOneAnswer() {
        BootNet x = net(3, 0);
        x.put(0, 9);
        x.entry(0, 1, x.check(0));
        x.entry(1, 1, 0);
        x.boot(0);
        Nets.fillTo(x, 0, 32);
        int[] kinds = {0, 1, 2, 3};
        int[] next = {1, 2, 3, 6};
        int[] numbers = {1, 2, 2, 0};
        for (int i = 0; i < kinds.length; i++) {
            Due.is("row: arrives", x.deliver(LAST), kinds[i]);
            Nets.message(x, "row: the answer has room", LAST, next[i], 0, numbers[i], 1, 0, 0, 0);
            Due.is("row: 32 again", x.message(32, 0), BootNet.NONE);
        }
        x.alter(LAST, false);
        Nets.ticks(x, 3);
        Nets.message(x, "row: READ has room", LAST, 8, 0, 0, 0, 0, 0, 0);
        Due.is("row: READ", x.deliver(LAST), 8);
        Nets.message(x, "row: DATA has room", LAST, 9, 0, 0, 0, 1, 1, 0);
        x.alter(0, false);
        Due.is("row: DATA", x.deliver(LAST - 1), 9);
        Nets.message(x, "row: GOT has room", LAST - 1, 10, 0, 0, 0, 1, 0, 0);
        Nets.message(x, "row: READ has room", LAST, 8, 0, 0, 1, 0, 0, 0);
        Due.is("row: READ", x.deliver(LAST), 8);
        Nets.message(x, "row: ERROR has room", LAST, 11, 0, 0, 1, 0, 0, 0);
    }

    private static void relayHasRoomBothWays() {
        BootNet x = net(3, 2);
        x.boot(0);
        Nets.fillTo(x, 0, 32);
        Due.is("row: to the relay", x.deliver(0), 0);
        Nets.message(x, "row: sent on as the last", LAST, 0, 0, 1, 0, 0, 0, 1);
        Due.is("row: to the server", x.deliver(LAST), 0);
        Nets.message(x, "row: OFFER", LAST, 1, 0, 1, 21, 0, 0, 1);
        Due.is("row: to the relay", x.deliver(LAST), 1);
        Nets.message(x, "row: sent on as the last", LAST, 1, 0, 1, 21, 0, 0, 0);
        Due.is("row: 32", Nets.underWay(x), 32);
    }

    private static void declineHasRoomAndDiscoverHasNot() {
        BootNet x = net(3, 0);
        x.stranger(1, true);
        x.boot(0);
        Nets.deliver(x, 0, 5);
        Nets.fillTo(x, 0, 32);
        Due.is("row: HERE", x.deliver(0), 7);
        Nets.message(x, "row: DECLINE has room", LAST, 5, 0, 0, 1, 0, 0, 0);
        Due.is("row: DISCOVER has none", x.message(LAST - 1, 0), 7);
        Nets.station(x, "row: it selects", 0, Nets.STATE, 1);
        Nets.station(x, "row: with a new number", 0, Nets.NUMBER, 3);
        Nets.station(x, "row: after a conflict", 0, Nets.CONFLICTS, 1);
        Nets.loseAll(x);
        Nets.ticks(x, 3);
        Nets.message(x, "row: DISCOVER again", 0, 0, 0, 3);
    }

    private static void gotHasRoomAndReadHasNot() {
        BootNet x = net(3, 0);
        Nets.putAll(x, 0, 5, 6);
        x.put(1, 7);
        x.entry(0, 2, x.check(0));
        x.entry(1, 1, x.check(1));
        Nets.bind(x, 0);
        x.deliver(0);
        Nets.fillTo(x, 0, 32);
        Due.is("row: DATA", x.deliver(0), 9);
        Nets.message(x, "row: GOT has room", LAST, 10, 0, 0, 0, 1, 0, 0);
        Due.is("row: READ has none", x.message(LAST - 1, 0), 9);
        Nets.station(x, "row: it loads the next entry", 0, Nets.ENTRY, 1);
        Nets.station(x, "row: it loads", 0, Nets.RESULT, 1);
        Nets.loseFrom(x, 0);
        x.crash();
        Due.is("row: READ is not due", x.tick() + x.tick(), 0);
        Due.is("row: READ again", x.tick(), 1);
        Nets.message(x, "row: READ again", 0, 8, 0, 0, 1, 0, 0, 0);
    }

    private static void readAgainIsLost() {
        BootNet x = net(2, 0);
        x.put(0, 1);
        x.entry(0, 1, x.check(0));
        Nets.bind(x, 0);
        Nets.fillTo(x, 0, 32);
        Nets.ticks(x, 5);
        Nets.station(x, "row: lost counts as a load try, not yet", 0, Nets.RESULT, 1);
        Due.is("row: 32", x.tick(), 32);
        Nets.station(x, "row: lost counts as a load try", 0, Nets.RESULT, 6);
    }

    /** A block grows to SIZE bytes and is sent again into a full row: it had SIZE bytes when it was sent last. */
    private static void blockThatIsLostWasSent() {
        BootNet x = net(3, 0);
        Nets.putAll(x, 0, 1, 2, 3);
        x.entry(0, 3, x.check(0));
        Nets.bind(x, 0);
        x.deliver(0);
        x.deliver(0);
        Nets.station(x, "row: three bytes", 0, Nets.RESULT, 2);
        Nets.fillTo(x, 0, 32);
        x.put(0, 4);
        Nets.ticks(x, 3);
        Due.is("row: no DATA has room", x.message(LAST, 0), 10);
        Due.is("row: GOT", x.deliver(0), 10);
        Nets.message(x, "row: the next block", LAST, 9, 0, 0, 0, 2, 0, 0);
    }

    /** What a station sent into a full row makes it wait anew: its older REQUEST is answered in vain. */
    private static void askThatIsLostWasSent() {
        BootNet x = net(3, 0);
        x.boot(0);
        Nets.deliver(x, 0, 2);
        Nets.fillTo(x, 0, 32);
        Nets.ticks(x, 3);
        Nets.station(x, "row: asked again", 0, Nets.NUMBER, 3);
        Due.is("row: in vain", x.message(LAST, 2), 2);
        x.deliver(0);
        Due.is("row: ACK of the older one", x.deliver(LAST), 3);
        Nets.station(x, "row: does nothing", 0, Nets.STATE, 2);
    }

    /** The row stays full of GOTs of block 1, which is sent again at 3 ticks, in vain, and gone at 6. */
    private static void blockThatIsLostIsATry(boolean gone) {
        BootNet x = net(2, 0);
        Nets.putCounting(x, 0, 5);
        x.entry(0, 5, x.check(0));
        Nets.bind(x, 0);
        Nets.deliver(x, 0, 2);
        Nets.fillTo(x, 0, 32);
        Nets.ticks(x, gone ? 6 : 5);
        Due.is("row: no DATA had room", x.message(LAST, 0), 10);
        Due.is("row: GOT", x.deliver(0), 10);
        Due.is("row: the next block", x.message(LAST, 0), gone ? BootNet.NONE : 9);
    }

    /** Station 0 holds 1 until 20, and copies of its PROBE fill the row. */
    private static BootNet boundInAFullRow() {
        BootNet x = Nets.net(20, 3, 4, 1, 9);
        x.put(0, 1);
        x.entry(0, 1, x.check(0));
        x.boot(0);
        Nets.deliver(x, 0, 4);
        Nets.fillTo(x, 0, 32);
        Nets.ticks(x, 3);
        Nets.station(x, "row: bound", 0, Nets.STATE, 4);
        return x;
    }

    private static void firstReadIsLost() {
        BootNet x = boundInAFullRow();
        Due.is("row: READ has no room", x.message(LAST, 0), 6);
        Nets.station(x, "row: it loads all the same", 0, Nets.RESULT, 1);
        Nets.loseAll(x);
        Due.is("row: READ is not due", x.tick() + x.tick(), 0);
        Due.is("row: READ is due", x.tick(), 1);
        Nets.message(x, "row: READ again", 0, 8, 0, 0, 0, 0, 0, 0);
    }

    private static void renewalIsLost() {
        BootNet x = boundInAFullRow();
        Nets.ticks(x, 7);
        Due.is("row: REQUEST has no room", x.message(LAST, 0), 6);
        Nets.station(x, "row: renewing all the same", 0, Nets.STATE, 5);
        Nets.station(x, "row: with a new number", 0, Nets.NUMBER, 3);
        Nets.loseAll(x);
        x.tick();
        x.tick();
        Nets.station(x, "row: it does not ask before it is due", 0, Nets.NUMBER, 3);
        Nets.loseAll(x);
        Due.is("row: REQUEST is due", x.tick(), 1);
        Nets.message(x, "row: REQUEST", 0, 2, 0, 4, 1, 0, 0, 0);
        Nets.deliver(x, 0, 2);
        Nets.station(x, "row: bound", 0, Nets.STATE, 4);
        Nets.station(x, "row: until LEASE from the second asking on", 0, Nets.END, 33);
    }

    /** It asks at 10, 13, 16 and 18, all of it in vain, and selects at 20. */
    private static void discoverAtTheEndIsLost() {
        BootNet x = boundInAFullRow();
        Nets.ticks(x, 16);
        Nets.station(x, "row: rebinding before the end", 0, Nets.STATE, 6);
        Due.is("row: the end", x.tick(), 32);
        Nets.station(x, "row: selecting", 0, Nets.STATE, 1);
        Nets.station(x, "row: with a new number", 0, Nets.NUMBER, 7);
        Due.is("row: DISCOVER has no room", x.message(LAST, 0), 6);
        Nets.loseAll(x);
        Due.is("row: DISCOVER is not due", x.tick() + x.tick(), 0);
        Due.is("row: DISCOVER is due", x.tick(), 1);
        Nets.message(x, "row: DISCOVER again", 0, 0, 0, 7, 0, 0, 0, 0);
    }
}
