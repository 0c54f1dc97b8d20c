/** Promises 9, 12, 13, 15 and 17 about addresses: offers, leases, bars and the states. */
public final class AddressTest {
    public static void main(String[] args) {
        bootSelects();
        bootForgets();
        bootInEveryState();
        numbersAreSharedByAll();
        offersAndTheirEnd();
        requestIsRefused();
        requestingTriesAgain();
        conflictWithAStation(0, 1);
        conflictWithAStation(1, 0);
        lateDeclineBarsAgain();
        declineOfAnothersLease();
        conflictsUpToTheLimit();
        renewing();
        rebinding();
        leaseEnds();
        nakWhileRenewing();
        staleAnswersDoNothing();
        crash();
        Due.end();
    }

    private static BootNet net(int lease, int limit, int stations, int high) {
        return Nets.net(lease, limit, 4, stations, high);
    }

    private static void bootSelects() {
        BootNet x = net(20, 3, 2, 9);
        Due.yes("9: station 1", x.boot(1));
        Nets.station(x, "9", 1, Nets.STATE, 1);
        Nets.station(x, "9: the first number", 1, Nets.NUMBER, 1);
        Nets.message(x, "9", 0, 0, 1, 1, 0, 0, 0, 0);
        Due.is("9: one message", Nets.underWay(x), 1);
    }

    private static void bootForgets() {
        BootNet x = net(20, 3, 1, 9);
        x.put(0, 7);
        x.entry(0, 1, x.check(0));
        x.entry(1, 1, 0);
        x.stranger(1, true);
        Nets.bind(x, 0);
        Nets.settle(x);
        Nets.station(x, "9: before", 0, Nets.ADDRESS, 2);
        Nets.station(x, "9: before", 0, Nets.CONFLICTS, 1);
        Nets.station(x, "9: before", 0, Nets.RESULT, 3);
        Nets.station(x, "9: before", 0, Nets.ENTRY, 1);
        Due.is("9: image before", x.image(0, 0), 7);
        Due.yes("9: boot", x.boot(0));
        int[] want = {1, 0, 5, 0, 0, 0, 0, 0};
        for (int what = 0; what < want.length; what++) {
            Nets.station(x, "9: after", 0, what, want[what]);
        }
        Due.is("9: image after", x.image(0, 0), BootNet.NONE);
        Due.is("9: the server keeps the lease", x.lease(2, 0), 0);
    }

    private static void bootInEveryState() {
        BootNet x = net(8, 1, 1, 9);
        for (int state = 0; state < 8; state++) {
            x.boot(0);
            if (state >= 2 && state < 7) {
                x.deliver(0);
                x.deliver(0);
            }
            if (state >= 3 && state < 7) {
                x.deliver(0);
                x.deliver(0);
            }
            Nets.ticks(x, state < 4 ? 0 : state == 5 ? 4 : state == 6 ? 7 : 3);
            Nets.station(x, "9: reached", 0, Nets.STATE, state == 0 ? 1 : state);
            Nets.loseAll(x);
            Due.yes("9: boot in state " + state, x.boot(0));
            Nets.station(x, "9: in state " + state, 0, Nets.STATE, 1);
            Nets.message(x, "9: in state " + state, 0, 0, 0, x.station(0, Nets.NUMBER), 0);
            Nets.loseAll(x);
        }
    }

    private static void numbersAreSharedByAll() {
        BootNet x = net(20, 3, 2, 9);
        x.boot(0);
        x.boot(1);
        Nets.station(x, "15: numbers", 0, Nets.NUMBER, 1);
        Nets.station(x, "15: numbers", 1, Nets.NUMBER, 2);
        Nets.ticks(x, 3);
        Nets.station(x, "12: DISCOVER again has the same number", 0, Nets.NUMBER, 1);
        Nets.message(x, "12: again", 2, 0, 0, 1);
        Nets.message(x, "12: again, the next station", 3, 0, 1, 2);
        x.deliver(0);
        x.deliver(3);
        Nets.station(x, "10: OFFER makes it ask with a new one", 0, Nets.NUMBER, 3);
        Nets.message(x, "10: REQUEST", 3, 2, 0, 3, 1, 0, 0, 0);
    }

    private static void offersAndTheirEnd() {
        BootNet x = net(20, 5, 2, 1);
        x.tick();
        x.boot(0);
        x.boot(1);
        x.deliver(0);
        Due.is("17: offered to", x.lease(1, 2), 0);
        Due.is("17: not leased", x.lease(1, 0), BootNet.NONE);
        x.deliver(0);
        Due.is("12: no second one is offered it", Nets.underWay(x), 1);
        Nets.loseAll(x);
        Nets.ticks(x, 5);
        Due.is("17: offer holds below its tick", x.lease(1, 2), 0);
        x.tick();
        Due.is("17: offer does not hold at its tick", x.lease(1, 2), BootNet.NONE);
        Nets.loseAll(x);
        x.boot(1);
        x.deliver(0);
        Due.is("17: offered to the other", x.lease(1, 2), 1);
    }

    private static void requestIsRefused() {
        BootNet x = net(20, 3, 1, 9);
        x.boot(0);
        x.deliver(0);
        x.deliver(0);
        Due.is("13: crash", x.crash(), 0);
        Due.is("17: offer is gone", x.lease(1, 2), BootNet.NONE);
        Due.is("10: REQUEST", x.deliver(0), 2);
        Nets.message(x, "10: NAK", 0, 4, 0, 2, 1, 0, 0, 0);
        Due.is("10: NAK", x.deliver(0), 4);
        Nets.station(x, "10: selects again", 0, Nets.STATE, 1);
        Nets.station(x, "10: without an address", 0, Nets.ADDRESS, 0);
        Nets.message(x, "10: DISCOVER", 0, 0, 0, 3);
        Due.is("18: nothing is recorded", x.journal(), 0);
    }

    private static void requestingTriesAgain() {
        BootNet x = net(20, 2, 1, 9);
        x.boot(0);
        Nets.ticks(x, 3);
        Nets.loseAll(x);
        x.boot(0);
        x.deliver(0);
        x.deliver(0);
        Nets.loseAll(x);
        Nets.ticks(x, 2);
        Due.is("12: not due", Nets.underWay(x), 0);
        Due.is("12: asks again", x.tick(), 1);
        Nets.message(x, "12: with a new number", 0, 2, 0, 4, 1);
        x.deliver(0);
        x.deliver(0);
        Nets.station(x, "12: sent is the last one's tick", 0, Nets.END, 26);
        x.boot(0);
        Nets.loseAll(x);
        Nets.ticks(x, 6);
        Nets.station(x, "12: fails", 0, Nets.STATE, 7);
        Nets.station(x, "12: no address", 0, Nets.RESULT, 7);
        Nets.loseAll(x);
        Nets.ticks(x, 5);
        Due.is("12: failed is silent", Nets.underWay(x), 0);
    }

    /** A PROBE that is long under way comes when another station has got the address. */
    private static void conflictWithAStation(int first, int second) {
        BootNet x = net(8, 5, 2, 1);
        x.boot(first);
        for (int i = 0; i < 4; i++) {
            x.deliver(0);
        }
        Nets.message(x, "10: PROBE", 0, 6, first, 0, 1, 0, 0, 0);
        x.alter(0, true);
        x.alter(0, true);
        Nets.ticks(x, 3);
        Nets.station(x, "12: holds", first, Nets.STATE, 4);
        Due.is("10: PROBE of the holder itself", x.deliver(0), 6);
        Due.is("10: nobody else is there", Nets.underWay(x), 2);
        Nets.ticks(x, 5);
        Nets.loseFrom(x, 2);
        x.boot(second);
        for (int i = 0; i < 4; i++) {
            x.deliver(2);
        }
        Nets.station(x, "10: the other probes", second, Nets.STATE, 3);
        Due.is("10: PROBE", x.deliver(0), 6);
        Due.is("10: who probes does not hold", x.message(2, 0), BootNet.NONE);
        x.alter(1, false);
        Nets.ticks(x, 3);
        Nets.station(x, "12: the other holds it", second, Nets.STATE, 4);
        Due.is("10: PROBE", x.deliver(0), 6);
        Nets.message(x, "10: HERE is for the one that probed", Nets.underWay(x) - 1, 7, first, 0, 1, 0, 0, 0);
    }

    /** The station has the address again when its DECLINE arrives: renewing is refused then. */
    private static void lateDeclineBarsAgain() {
        for (int ticks = 7; ticks <= 15; ticks += 8) {
            BootNet x = net(20, 3, 1, 2);
            x.stranger(1, true);
            x.boot(0);
            for (int i = 0; i < 6; i++) {
                x.deliver(0);
            }
            x.stranger(1, false);
            Due.is("10: DECLINE waits", x.message(0, 0), 5);
            for (int i = 0; i < 5; i++) {
                x.deliver(1);
            }
            Nets.ticks(x, 3 + ticks);
            Nets.station(x, "12: has it again", 0, Nets.ADDRESS, 1);
            Nets.station(x, "12: renewing or rebinding", 0, Nets.STATE, ticks == 7 ? 5 : 6);
            Due.is("10: DECLINE", x.deliver(0), 5);
            Due.is("17: barred", x.lease(1, 3), 3 + ticks + 20);
            int last = Nets.underWay(x) - 1;
            Due.is("10: REQUEST", x.deliver(last), 2);
            Due.is("10: NAK", x.deliver(last), 4);
            Nets.station(x, "10: selects", 0, Nets.STATE, 1);
            x.deliver(last);
            Nets.message(x, "10: a barred one is not offered", last, 1, 0, x.station(0, Nets.NUMBER), 2);
        }
    }

    private static void declineOfAnothersLease() {
        BootNet x = net(8, 3, 2, 1);
        x.stranger(1, true);
        x.boot(0);
        for (int i = 0; i < 6; i++) {
            x.deliver(0);
        }
        Nets.loseFrom(x, 1);
        Nets.ticks(x, 8);
        Nets.loseFrom(x, 1);
        x.boot(1);
        for (int i = 0; i < 3; i++) {
            x.deliver(1);
        }
        Due.is("17: leased to the other", x.lease(1, 0), 1);
        Due.is("10: DECLINE of the one before", x.deliver(0), 5);
        Due.is("17: not barred", x.lease(1, 3), BootNet.NONE);
    }

    private static void conflictsUpToTheLimit() {
        BootNet x = new BootNet(30, 2, 4);
        x.pool(1, 1, 9);
        x.attach(1);
        for (int n = 11; n < 20; n++) {
            x.stranger(n, true);
        }
        x.tick();
        x.boot(0);
        for (int i = 0; i < 8; i++) {
            x.deliver(0);
        }
        Nets.message(x, "10: PROBE is on leg 0", 0, 6, 0, 0, 11, 0, 0, 0);
        Due.is("10: PROBE", x.deliver(0), 6);
        Nets.message(x, "10: HERE is on leg 0", 0, 7, 0, 0, 11, 0, 0, 0);
        Due.yes("11: HERE twice", x.alter(0, true));
        Due.is("10: HERE", x.deliver(0), 7);
        Nets.station(x, "10: a conflict", 0, Nets.CONFLICTS, 1);
        Nets.station(x, "10: selects", 0, Nets.STATE, 1);
        Due.is("10: HERE again", x.deliver(0), 7);
        Nets.station(x, "10: a second HERE does nothing", 0, Nets.CONFLICTS, 1);
        Nets.message(x, "10: DECLINE first", 0, 5, 0, 0, 11, 0, 0, 0);
        Nets.message(x, "10: DISCOVER then", 1, 0, 0, 3, 0, 0, 0, 0);
        x.deliver(0);
        x.deliver(1);
        Due.is("17: barred until", x.lease(11, 3), 31);
        Due.is("17: leased still", x.lease(11, 0), 0);
        Nets.settle(x);
        Nets.station(x, "10: fails", 0, Nets.STATE, 7);
        Nets.station(x, "10: for conflicts", 0, Nets.RESULT, 8);
        Nets.station(x, "10: conflicts", 0, Nets.CONFLICTS, 2);
        Nets.station(x, "10: without an address", 0, Nets.ADDRESS, 0);
        Due.is("17: the second one is barred too", x.lease(12, 3), 31);
        Nets.ticks(x, 29);
        Due.is("17: a bar holds below its tick", x.lease(12, 3), 31);
        x.tick();
        Due.is("17: and not at it", x.lease(12, 3), BootNet.NONE);
    }

    private static void renewing() {
        BootNet x = net(21, 3, 1, 9);
        Nets.bind(x, 0);
        Nets.ticks(x, 7);
        Nets.station(x, "12: 2 * 10 is below 21", 0, Nets.STATE, 4);
        Due.is("12: renews", x.tick(), 1);
        Nets.station(x, "12: 2 * 11 is not", 0, Nets.STATE, 5);
        Nets.message(x, "12: REQUEST", 0, 2, 0, 3, 1, 0, 0, 0);
        x.deliver(0);
        Due.is("17: the lease is longer", x.lease(1, 1), 32);
        Nets.station(x, "15: end is not yet", 0, Nets.END, 21);
        x.tick();
        x.deliver(0);
        Nets.station(x, "10: bound again", 0, Nets.STATE, 4);
        Nets.station(x, "10: end is sent + LEASE", 0, Nets.END, 32);
        Due.is("10: no PROBE", Nets.underWay(x), 0);
        Nets.ticks(x, 10);
        Nets.station(x, "12: from sent on, renews again", 0, Nets.STATE, 5);
    }

    private static void rebinding() {
        BootNet x = net(16, 1, 1, 9);
        Nets.bind(x, 0);
        Nets.ticks(x, 5);
        Nets.station(x, "12: renewing at 8", 0, Nets.STATE, 5);
        Due.is("12: at 9", x.tick(), 1);
        Due.is("12: at 10", x.tick(), 1);
        Due.is("12: asks at 11", x.tick(), 2);
        Nets.ticks(x, 2);
        Nets.station(x, "12: renewing at 13", 0, Nets.STATE, 5);
        Due.is("12: asks at 14", x.tick(), 3);
        Nets.station(x, "12: rebinding at 14", 0, Nets.STATE, 6);
        Nets.station(x, "12: LIMIT does not count here", 0, Nets.NUMBER, 5);
        x.deliver(2);
        x.deliver(2);
        Nets.station(x, "10: rebinding ends", 0, Nets.STATE, 4);
        Nets.station(x, "10: end", 0, Nets.END, 30);
    }

    private static void leaseEnds() {
        BootNet x = net(8, 3, 2, 1);
        Nets.bind(x, 0);
        Nets.ticks(x, 4);
        Nets.station(x, "12: holds below end", 0, Nets.STATE, 6);
        Due.is("17: lease holds", x.lease(1, 0), 0);
        Due.is("17: until", x.lease(1, 1), 8);
        Nets.loseAll(x);
        x.tick();
        Nets.station(x, "12: selects at end", 0, Nets.STATE, 1);
        Nets.station(x, "12: without an address", 0, Nets.ADDRESS, 0);
        Nets.station(x, "12: end stays", 0, Nets.END, 8);
        Due.is("17: lease is over", x.lease(1, 0), BootNet.NONE);
        Due.is("17: its tick", x.lease(1, 1), BootNet.NONE);
        Nets.message(x, "12: DISCOVER alone", 0, 0, 0);
        Due.is("12: one message", Nets.underWay(x), 1);
        x.boot(1);
        x.deliver(1);
        Due.is("17: free for another", x.lease(1, 2), 1);
    }

    private static void nakWhileRenewing() {
        BootNet x = net(20, 3, 1, 9);
        Nets.bind(x, 0);
        Nets.ticks(x, 7);
        Due.is("10: REQUEST", x.message(0, 0), 2);
        x.alter(0, true);
        Nets.ticks(x, 7);
        Nets.station(x, "12: rebinding at 18 alone", 0, Nets.STATE, 5);
        Nets.ticks(x, 3);
        Nets.station(x, "12: selecting at 20", 0, Nets.STATE, 1);
        Due.is("10: a late REQUEST", x.deliver(0), 2);
        int last = Nets.underWay(x) - 1;
        Nets.message(x, "10: the lease is over", last, 4, 0, 3, 1);
        x.deliver(last);
        Nets.station(x, "10: NAK with an older number", 0, Nets.NUMBER, x.message(last - 1, 2));
    }

    private static void staleAnswersDoNothing() {
        BootNet x = net(20, 3, 1, 9);
        x.boot(0);
        x.deliver(0);
        x.boot(0);
        Due.is("10: an older OFFER", x.deliver(0), 1);
        Nets.station(x, "10: does nothing", 0, Nets.STATE, 1);
        x.deliver(0);
        x.deliver(0);
        x.deliver(0);
        x.alter(0, true);
        Due.is("10: ACK", x.deliver(0), 3);
        Due.is("10: ACK again", x.deliver(0), 3);
        Nets.station(x, "10: once alone", 0, Nets.STATE, 3);
        Due.is("10: one PROBE", Nets.underWay(x), 1);
        Nets.ticks(x, 3);
        Nets.station(x, "12: bound", 0, Nets.STATE, 4);
        x.stranger(1, true);
        x.deliver(0);
        x.deliver(0);
        Nets.station(x, "10: HERE comes too late", 0, Nets.STATE, 4);
    }

    private static void crash() {
        BootNet x = net(20, 3, 3, 9);
        Nets.putCounting(x, 0, 8);
        x.entry(0, 8, x.check(0));
        x.stranger(1, true);
        Nets.bind(x, 0);
        x.deliver(0);
        x.boot(1);
        x.deliver(1);
        Due.is("13: barred", x.lease(1, 3), 20);
        Due.is("13: leased", x.lease(2, 0), 0);
        Due.is("13: offered", x.lease(3, 2), 1);
        Due.is("18: records", x.journal(), 2);
        int before = Nets.underWay(x);
        Due.is("13: records", x.crash(), 2);
        Due.is("13: no bar", x.lease(1, 3), BootNet.NONE);
        Due.is("13: no offer", x.lease(3, 2), BootNet.NONE);
        Due.is("13: lease anew", x.lease(1, 0), 0);
        Due.is("13: second lease anew", x.lease(2, 1), 20);
        Due.is("13: the journal stays", x.journal(), 2);
        Due.is("13: messages stay", Nets.underWay(x), before);
        Nets.station(x, "13: stations stay", 0, Nets.STATE, 4);
        Due.is("13: DATA under way", x.deliver(0), 9);
        Due.is("13: OFFER", x.deliver(0), 1);
        Due.is("13: GOT", x.deliver(0), 10);
        Due.is("13: the transfer is gone", Nets.underWay(x), 1);
    }
}
