/** Promises 10, 11 and 14: the row of messages, the relay, loss and copies. */
public final class MessageTest {
    public static void main(String[] args) {
        anyMessageCanArrive();
        relayBothWays();
        alterLoses();
        alterDoubles();
        Due.end();
    }

    private static BootNet net(int subnet, int stations) {
        BootNet x = new BootNet(20, 3, 4);
        x.pool(subnet, 1, 9);
        for (int i = 0; i < stations; i++) {
            x.attach(subnet);
            x.boot(i);
        }
        return x;
    }

    private static void anyMessageCanArrive() {
        BootNet x = net(0, 3);
        Due.is("10: the middle one", x.deliver(1), 0);
        Nets.message(x, "10: first", 0, 0, 0, 1);
        Nets.message(x, "10: then", 1, 0, 2, 3);
        Nets.message(x, "10: the OFFER at the end", 2, 1, 1, 2, 1, 0, 0, 0);
        Due.is("10: the last one", x.deliver(2), 1);
        Nets.message(x, "10: REQUEST at the end", 2, 2, 1, 4, 1, 0, 0, 0);
        Due.is("10: the first one", x.deliver(0), 0);
        Nets.message(x, "10: OFFER", 2, 1, 0, 1, 2, 0, 0, 0);
    }

    private static void relayBothWays() {
        BootNet x = net(1, 2);
        Nets.message(x, "14: sent on leg 0", 0, 0, 0, 1, 0, 0, 0, 0);
        Due.is("10: to the relay", x.deliver(0), 0);
        Nets.message(x, "10: goes on at the end", 1, 0, 0, 1, 0, 0, 0, 1);
        Due.is("10: nothing is offered yet", x.lease(11, 2), BootNet.NONE);
        Due.is("10: to the server", x.deliver(1), 0);
        Due.is("10: offered now", x.lease(11, 2), 0);
        Nets.message(x, "14: the server's on leg 1", 1, 1, 0, 1, 11, 0, 0, 1);
        Due.is("10: to the relay", x.deliver(1), 1);
        Nets.station(x, "10: not there yet", 0, Nets.STATE, 1);
        Nets.message(x, "10: on leg 0", 1, 1, 0, 1, 11, 0, 0, 0);
        Due.is("10: to the station", x.deliver(1), 1);
        Nets.station(x, "10: there", 0, Nets.STATE, 2);
        x.deliver(1);
        x.deliver(1);
        Nets.message(x, "14: ACK", 1, 3, 0, 3, 11, 0, 0, 1);
        x.crash();
        x.deliver(1);
        x.deliver(1);
        Due.is("10: PROBE needs no relay", x.deliver(1), 6);
        Due.is("10: nobody answers", Nets.underWay(x), 1);
    }

    private static void alterLoses() {
        BootNet x = net(0, 3);
        Due.yes("11: lost", x.alter(1, false));
        Due.is("11: two are left", Nets.underWay(x), 2);
        Nets.message(x, "11: first", 0, 0, 0, 1);
        Nets.message(x, "11: second", 1, 0, 2, 3);
        Due.yes("11: lost", x.alter(0, false));
        Due.yes("11: lost", x.alter(0, false));
        Due.no("11: none is left", x.alter(0, false));
        Due.is("12: none", x.tick(), 0);
    }

    private static void alterDoubles() {
        BootNet x = net(1, 1);
        Nets.putCounting(x, 0, 3);
        x.entry(0, 3, x.check(0));
        x.deliver(0);
        Due.yes("11: twice", x.alter(0, true));
        Nets.message(x, "11: the copy", 1, 0, 0, 1, 0, 0, 0, 1);
        Nets.loseAll(x);
        Nets.bind(x, 0);
        x.deliver(0);
        x.deliver(0);
        Due.yes("11: DATA twice", x.alter(0, true));
        Nets.message(x, "11: the copy", 1, 9, 0, 0, 0, 1, 3, 1);
        x.alter(0, false);
        x.deliver(0);
        x.deliver(0);
        Nets.station(x, "11: the copy has the bytes", 0, Nets.RESULT, 2);
        Due.is("16: the last byte", x.image(0, 2), 2);
    }
}
