/** Promises 10, 11 and 14: the row of messages, the relay, loss and copies. */
public final class MessageTest {
    public static void main(String[] args) {
        anyMessageCanArrive();
        relayBothWays();
        everyKindOnItsWay();
        alterLoses();
        alterDoubles();
        Due.end();
    }

    private static BootNet net(int subnet, int stations) {
        BootNet x = new BootNet(20, 3, 4);
        x.pool(subnet, 1, 9);
        for (int i = 0; i < stations; i++) {
            x.attach(subnet);
            x.boot(i);
        }
        return x;
    }

    private static void anyMessageCanArrive() {
        BootNet x = net(0, 3);
        Due.is("10: the middle one", x.deliver(1), 0);
        Nets.message(x, "10: first", 0, 0, 0, 1);
        Nets.message(x, "10: then", 1, 0, 2, 3);
        Nets.message(x, "10: the OFFER at the end", 2, 1, 1, 2, 1, 0, 0, 0);
        Due.is("10: the last one", x.deliver(2), 1);
        Nets.message(x, "10: REQUEST at the end", 2, 2, 1, 4, 1, 0, 0, 0);
        Due.is("10: the first one", x.deliver(0), 0);
        Nets.message(x, "10: OFFER", 2, 1, 0, 1, 2, 0, 0, 0);
    }

    private static void relayBothWays() {
        BootNet x = net(1, 2);
        Nets.message(x, "14: sent on leg 0", 0, 0, 0, 1, 0, 0, 0, 0);
        Due.is("10: to the relay", x.deliver(0), 0);
        Nets.message(x, "10: goes on at the end", 1, 0, 0, 1, 0, 0, 0, 1);
        Due.is("10: nothing is offered yet", x.lease(11, 2), BootNet.NONE);
        Due.is("10: to the server", x.deliver(1), 0);
        Due.is("10: offered now", x.lease(11, 2), 0);
        Nets.message(x, "14: the server's on leg 1", 1, 1, 0, 1, 11, 0, 0, 1);
        Due.is("10: to the relay", x.deliver(1), 1);
        Nets.station(x, "10: not there yet", 0, Nets.STATE, 1);
        Nets.message(x, "10: on leg 0", 1, 1, 0, 1, 11, 0, 0, 0);
        Due.is("10: to the station", x.deliver(1), 1);
        Nets.station(x, "10: there", 0, Nets.STATE, 2);
        x.deliver(1);
        x.deliver(1);
        Nets.message(x, "14: ACK", 1, 3, 0, 3, 11, 0, 0, 1);
        x.crash();
        x.deliver(1);
        x.deliver(1);
        Due.is("10: PROBE needs no relay", x.deliver(1), 6);
        Due.is("10: nobody answers", Nets.underWay(x), 1);
    }

    /** Every kind comes up in this run; on which leg a message is and where it comes to is told by its kind alone. */
    private static void everyKindOnItsWay() {
        for (int subnet = 0; subnet <= 2; subnet++) {
            BootNet x = net(subnet, 1);
            x.stranger(10 * subnet + 1, true);
            x.put(0, 1);
            x.entry(0, 1, x.check(0));
            x.entry(1, 1, 0);
            int[] legs = new int[12];
            int first = subnet == 0 ? 2 : 4;
            goTheirWay(x, subnet, first, legs);
            x.crash();
            goTheirWay(x, subnet, 40, legs);
            Nets.ticks(x, 3);
            goTheirWay(x, subnet, 40, legs);
            for (int kind = 0; kind < 12; kind++) {
                Due.is("10: legs of kind " + kind + " in subnet " + subnet, legs[kind], isNear(subnet, kind) ? 1 : 3);
            }
        }
    }

    private static boolean isNear(int subnet, int kind) {
        return subnet == 0 || kind == 6 || kind == 7;
    }

    /** The oldest message arrives, so often or until none is left; the legs of each kind are noted as bits. */
    private static void goTheirWay(BootNet x, int subnet, int most, int[] legs) {
        int[] fields = new int[7];
        for (int i = 0; i < most; i++) {
            for (int what = 0; what < 7; what++) {
                fields[what] = x.message(0, what);
            }
            int kind = fields[0];
            if (kind == BootNet.NONE) {
                break;
            }
            boolean up = kind == 0 || kind == 2 || kind == 5 || kind == 8 || kind == 10;
            legs[kind] |= 1 << fields[6];
            Due.is("10: arrives", x.deliver(0), kind);
            if (!isNear(subnet, kind) && fields[6] == (up ? 0 : 1)) {
                fields[6] = 1 - fields[6];
                Nets.message(x, "10: sent on by the relay", Nets.underWay(x) - 1, fields);
            }
        }
    }

    private static void alterLoses() {
        BootNet x = net(0, 3);
        Due.yes("11: lost", x.alter(1, false));
        Due.is("11: two are left", Nets.underWay(x), 2);
        Nets.message(x, "11: first", 0, 0, 0, 1);
        Nets.message(x, "11: second", 1, 0, 2, 3);
        Due.yes("11: lost", x.alter(0, false));
        Due.yes("11: lost", x.alter(0, false));
        Due.no("11: none is left", x.alter(0, false));
        Due.is("12: none", x.tick(), 0);
    }

    private static void alterDoubles() {
        BootNet x = net(1, 1);
        Nets.putCounting(x, 0, 3);
        x.entry(0, 3, x.check(0));
        x.deliver(0);
        Due.yes("11: twice", x.alter(0, true));
        Nets.message(x, "11: the copy", 1, 0, 0, 1, 0, 0, 0, 1);
        Nets.loseAll(x);
        Nets.bind(x, 0);
        x.deliver(0);
        x.deliver(0);
        Due.yes("11: DATA twice", x.alter(0, true));
        Nets.message(x, "11: the copy", 1, 9, 0, 0, 0, 1, 3, 1);
        x.alter(0, false);
        x.deliver(0);
        x.deliver(0);
        Nets.station(x, "11: the copy has the bytes", 0, Nets.RESULT, 2);
        Due.is("16: the last byte", x.image(0, 2), 2);
    }
}
