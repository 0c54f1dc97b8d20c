/** Promises 10, 11 and 14: the row of messages, the relay, loss and copies. */
public final class MessageTest {
    public static void main(String[] args) {
        deliverRefuses();
        anyMessageCanArrive();
        relayBothWays();
        alterLoses();
        alterDoubles();
        rowIsFull();
        relayWorksInAFullRow();
        messageRefuses();
        Due.end();
    }

    private static BootNet net(int subnet, int stations) {
        BootNet x = new BootNet(20, 3, 4);
        x.pool(subnet, 1, 9);
        for (int i = 0; i < stations; i++) {
            x.attach(subnet);
            x.boot(i);
        }
        return x;
    }

    private static void deliverRefuses() {
        BootNet x = net(0, 2);
        int[] wrong = {Integer.MIN_VALUE, -1, 2, 32, Integer.MAX_VALUE};
        for (int k : wrong) {
            Due.is("10: k " + k, x.deliver(k), BootNet.NONE);
            Due.no("11: k " + k, x.alter(k, false));
            Due.no("11: k " + k + " twice", x.alter(k, true));
            Due.is("10: all are there", Nets.underWay(x), 2);
        }
    }

    private static void anyMessageCanArrive() {
        BootNet x = net(0, 3);
        Due.is("10: the middle one", x.deliver(1), 0);
        Nets.message(x, "10: first", 0, 0, 0, 1);
        Nets.message(x, "10: then", 1, 0, 2, 3);
        Nets.message(x, "10: the OFFER at the end", 2, 1, 1, 2, 1, 0, 0, 0);
        Due.is("10: the last one", x.deliver(2), 1);
        Nets.message(x, "10: REQUEST at the end", 2, 2, 1, 4, 1, 0, 0, 0);
        Due.is("10: the first one", x.deliver(0), 0);
        Nets.message(x, "10: OFFER", 2, 1, 0, 1, 2, 0, 0, 0);
    }

    private static void relayBothWays() {
        BootNet x = net(1, 2);
        Nets.message(x, "14: sent on leg 0", 0, 0, 0, 1, 0, 0, 0, 0);
        Due.is("10: to the relay", x.deliver(0), 0);
        Nets.message(x, "10: goes on at the end", 1, 0, 0, 1, 0, 0, 0, 1);
        Due.is("10: nothing is offered yet", x.lease(11, 2), BootNet.NONE);
        Due.is("10: to the server", x.deliver(1), 0);
        Due.is("10: offered now", x.lease(11, 2), 0);
        Nets.message(x, "14: the server's on leg 1", 1, 1, 0, 1, 11, 0, 0, 1);
        Due.is("10: to the relay", x.deliver(1), 1);
        Nets.station(x, "10: not there yet", 0, Nets.STATE, 1);
        Nets.message(x, "10: on leg 0", 1, 1, 0, 1, 11, 0, 0, 0);
        Due.is("10: to the station", x.deliver(1), 1);
        Nets.station(x, "10: there", 0, Nets.STATE, 2);
        x.deliver(1);
        x.deliver(1);
        Nets.message(x, "14: ACK", 1, 3, 0, 3, 11, 0, 0, 1);
        x.crash();
        x.deliver(1);
        x.deliver(1);
        Due.is("10: PROBE needs no relay", x.deliver(1), 6);
        Due.is("10: nobody answers", Nets.underWay(x), 1);
    }

    private static void alterLoses() {
        BootNet x = net(0, 3);
        Due.yes("11: lost", x.alter(1, false));
        Due.is("11: two are left", Nets.underWay(x), 2);
        Nets.message(x, "11: first", 0, 0, 0, 1);
        Nets.message(x, "11: second", 1, 0, 2, 3);
        Due.yes("11: lost", x.alter(0, false));
        Due.yes("11: lost", x.alter(0, false));
        Due.no("11: none is left", x.alter(0, false));
        Due.is("12: none", x.tick(), 0);
    }

    private static void alterDoubles() {
        BootNet x = net(1, 1);
        Nets.putCounting(x, 0, 3);
        x.entry(0, 3, x.check(0));
        x.deliver(0);
        Due.yes("11: twice", x.alter(0, true));
        Nets.message(x, "11: the copy", 1, 0, 0, 1, 0, 0, 0, 1);
        Nets.loseAll(x);
        Nets.bind(x, 0);
        x.deliver(0);
        x.deliver(0);
        Due.yes("11: DATA twice", x.alter(0, true));
        Nets.message(x, "11: the copy", 1, 9, 0, 0, 0, 1, 3, 1);
        x.alter(0, false);
        x.deliver(0);
        x.deliver(0);
        Nets.station(x, "11: the copy has the bytes", 0, Nets.RESULT, 2);
        Due.is("16: the last byte", x.image(0, 2), 2);
    }

    private static void rowIsFull() {
        BootNet x = net(0, 2);
        for (int i = 2; i < 32; i++) {
            Due.yes("11: copy " + i, x.alter(i % 2, true));
        }
        Due.no("11: 32 are there", x.alter(0, true));
        Due.is("11: 32", Nets.underWay(x), 32);
        Due.is("14: no 33rd", x.message(32, 0), BootNet.NONE);
        Due.is("12: what is sent is lost", (x.tick() + x.tick() + x.tick()) / 3, 32);
        Nets.station(x, "12: tried all the same", 0, Nets.STATE, 1);
        Due.yes("9: boot", x.boot(0));
        Due.is("9: lost too", Nets.underWay(x), 32);
        Nets.station(x, "9: new number", 0, Nets.NUMBER, 3);
        Due.yes("11: one is lost", x.alter(31, false));
        Due.yes("11: there is room", x.alter(0, true));
        Due.is("11: 32", Nets.underWay(x), 32);
    }

    private static void relayWorksInAFullRow() {
        BootNet x = net(2, 1);
        for (int i = 1; i < 32; i++) {
            x.alter(0, true);
        }
        Due.is("10: to the relay", x.deliver(0), 0);
        Due.is("10: 32 still", Nets.underWay(x), 32);
        Nets.message(x, "10: at the end", 31, 0, 0, 1, 0, 0, 0, 1);
    }

    private static void messageRefuses() {
        BootNet x = net(0, 1);
        int[] wrong = {Integer.MIN_VALUE, -1, 7, Integer.MAX_VALUE};
        for (int w : wrong) {
            Due.is("14: what " + w, x.message(0, w), BootNet.NONE);
            Due.is("14: k " + w, x.message(w, 0), BootNet.NONE);
        }
        Due.is("14: k 1", x.message(1, 0), BootNet.NONE);
    }
}
