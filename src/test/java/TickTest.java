/**
 * A TICK: for each "is .. or more" and each "are LIMIT" the last tick at which it does not hold yet and the first at
 * which it does, and that each station does but the first thing that holds.
 */
public final class TickTest {
    public static void main(String[] args) {
        for (int limit = 1; limit <= 5; limit++) {
            selectingIsDueUpTo(limit);
            requestingIsDueUpTo(limit);
            loadIsDueUpTo(limit);
            loadOfALaterBlockIsDueUpTo(limit);
            transferIsDueUpTo(limit);
            transferIsThereUpTo(limit);
        }
        for (int lease = 8; lease <= 60; lease++) {
            leaseGoesBy(lease);
        }
        renewedLeaseGoesBy();
        probeIsDue();
        oneThingATick();
        askingGoesBeforeLoading();
        renewingHasNoLimit();
        triesBeginAgainWithAnOffer();
        triesBeginAgainWithANak();
        triesBeginAgainAtTheEndOfALease();
        loadTriesBeginAgainWithData();
        transferTriesBeginAgainWithANewBlock();
        transferGoesOnWithoutItsStation();
        leastStationFirst();
        offAndFailedAreSilent();
        Due.end();
    }

    private static BootNet net(int lease, int limit) {
        return Nets.net(lease, limit, 4, 1, 9);
    }

    private static void selectingIsDueUpTo(int limit) {
        BootNet x = net(20, limit);
        Nets.ticks(x, 2);
        x.boot(0);
        for (int t = 1; t <= 3 * limit + 3; t++) {
            Due.is("tick: DISCOVERs after " + t + " of " + limit, x.tick(), Math.min(limit, 1 + t / 3));
            Nets.station(x, "tick: selecting after " + t, 0, Nets.STATE, t < 3 * limit ? 1 : 7);
            Nets.station(x, "tick: result after " + t, 0, Nets.RESULT, t < 3 * limit ? 0 : 7);
        }
        for (int k = 0; k < limit; k++) {
            Nets.message(x, "tick: the same each time", k, 0, 0, 1, 0, 0, 0, 0);
        }
    }

    private static void requestingIsDueUpTo(int limit) {
        BootNet x = net(20, limit);
        x.boot(0);
        Nets.deliver(x, 0, 2);
        for (int t = 1; t <= 3 * limit + 3; t++) {
            Due.is("tick: REQUESTs after " + t + " of " + limit, x.tick(), Math.min(limit, 1 + t / 3));
            Nets.station(x, "tick: requesting after " + t, 0, Nets.STATE, t < 3 * limit ? 2 : 7);
            Nets.station(x, "tick: address after " + t, 0, Nets.ADDRESS, t < 3 * limit ? 1 : 0);
            Nets.station(x, "tick: result after " + t, 0, Nets.RESULT, t < 3 * limit ? 0 : 7);
        }
        for (int k = 0; k < limit; k++) {
            Nets.message(x, "tick: a new number each time", k, 2, 0, 2 + k, 1, 0, 0, 0);
        }
    }

    /** One file of eight bytes is the list; the READ of the station, which is bound at NOW 3, is message 0. */
    private static BootNet reading(int lease, int limit) {
        BootNet x = net(lease, limit);
        Nets.putCounting(x, 0, 8);
        x.entry(0, 8, x.check(0));
        Nets.bind(x, 0);
        return x;
    }

    private static void loadIsDueUpTo(int limit) {
        BootNet x = reading(60, limit);
        for (int t = 1; t <= 3 * limit + 3; t++) {
            Due.is("tick: READs after " + t + " of " + limit, x.tick(), Math.min(limit, 1 + t / 3));
            Nets.station(x, "tick: result after " + t, 0, Nets.RESULT, t < 3 * limit ? 1 : 6);
            Nets.station(x, "tick: bound after " + t, 0, Nets.STATE, 4);
        }
        for (int k = 0; k < limit; k++) {
            Nets.message(x, "tick: the same each time", k, 8, 0, 0, 0, 0, 0, 0);
        }
    }

    private static void loadOfALaterBlockIsDueUpTo(int limit) {
        BootNet x = reading(60, limit);
        Nets.deliver(x, 0, 2);
        x.crash();
        for (int t = 1; t <= 3 * limit + 3; t++) {
            Due.is("tick: GOT alone after " + t, x.tick(), 1);
            Nets.station(x, "tick: result after " + t, 0, Nets.RESULT, t < 3 * limit ? 1 : 6);
            Nets.station(x, "tick: bytes after " + t, 0, Nets.BYTES, 4);
        }
    }

    private static void transferIsDueUpTo(int limit) {
        BootNet x = reading(60, limit);
        Nets.deliver(x, 0, 2);
        for (int t = 1; t <= 3 * limit + 3; t++) {
            Due.is("tick: GOT and DATA after " + t + " of " + limit, x.tick(), Math.min(limit, 1 + t / 3));
        }
        for (int k = 1; k < limit; k++) {
            Nets.message(x, "tick: the same each time", k, 9, 0, 0, 0, 1, 4, 0);
        }
    }

    private static void transferIsThereUpTo(int limit) {
        for (int late = 0; late <= 1; late++) {
            BootNet x = reading(60, limit);
            Nets.deliver(x, 0, 2);
            Nets.ticks(x, 3 * limit - 1 + late);
            Nets.loseFrom(x, 1);
            Due.is("tick: GOT", x.deliver(0), 10);
            Due.is("tick: block 2 of " + limit + " tries, late by " + late, x.message(0, 4), late == 0 ? 2 : BootNet.NONE);
        }
    }

    /** A station has an address from 0 on, and nothing of what it asks arrives. */
    private static void leaseGoesBy(int lease) {
        BootNet x = net(lease, 3);
        x.boot(0);
        Nets.settle(x);
        int renews = (lease + 1) / 2;
        int rebinds = (7 * lease + 7) / 8;
        int asks = 0;
        int last = 0;
        for (int t = 1; t <= lease; t++) {
            boolean again = t > renews && t < lease && t - last == 3;
            if (t == renews || t == rebinds || again) {
                asks++;
                last = t;
            }
            int discovers = t == lease ? 1 : 0;
            int state = t < 3 ? 3 : t < renews ? 4 : t < rebinds ? 5 : t < lease ? 6 : 1;
            String where = "tick: " + t + " of LEASE " + lease;
            Due.is(where + ": messages", x.tick(), asks + discovers);
            Nets.station(x, where, 0, Nets.STATE, state);
            Nets.station(x, where, 0, Nets.ADDRESS, t < lease ? 1 : 0);
            Nets.station(x, where, 0, Nets.NUMBER, 2 + asks + discovers);
            Nets.station(x, where, 0, Nets.END, lease);
        }
        Nets.message(x, "tick: DISCOVER at the end of LEASE " + lease, asks, 0, 0, 3 + asks, 0);
    }

    /** Of the asks at 12, 15, .. the second is answered, at 17: all counts from 15, when it was sent. */
    private static void renewedLeaseGoesBy() {
        BootNet x = net(24, 3);
        Nets.bind(x, 0);
        Nets.ticks(x, 13);
        Due.is("tick: two asks", Nets.underWay(x), 2);
        Due.is("tick: REQUEST at 16", x.deliver(1), 2);
        x.tick();
        Due.is("tick: ACK at 17", x.deliver(1), 3);
        Nets.loseAll(x);
        Nets.station(x, "tick: bound again", 0, Nets.STATE, 4);
        Nets.station(x, "tick: end", 0, Nets.END, 39);
        Due.is("tick: the server's tick", x.lease(1, 1), 40);
        for (int t = 18; t <= 39; t++) {
            x.tick();
            Nets.station(x, "tick: renewed, " + t, 0, Nets.STATE, t < 27 ? 4 : t < 36 ? 5 : t < 39 ? 6 : 1);
            Due.is("tick: leased, " + t, x.lease(1, 0), 0);
        }
        x.tick();
        Due.is("tick: leased no longer", x.lease(1, 0), BootNet.NONE);
    }

    /** REQUEST and ACK take some ticks: the probe counts from the ACK, the end from the REQUEST. */
    private static void probeIsDue() {
        for (int ticks = 0; ticks <= 2; ticks++) {
            BootNet x = net(20, 3);
            x.boot(0);
            Nets.deliver(x, 0, 2);
            Nets.ticks(x, ticks);
            Nets.deliver(x, 0, 2);
            Nets.station(x, "tick: end", 0, Nets.END, 20);
            Due.is("tick: the server's tick", x.lease(1, 1), 20 + ticks);
            Nets.ticks(x, 2);
            Nets.station(x, "tick: probing", 0, Nets.STATE, 3);
            x.tick();
            Nets.station(x, "tick: bound", 0, Nets.STATE, 4);
        }
        BootNet x = net(20, 3);
        x.boot(0);
        Nets.deliver(x, 0, 2);
        Nets.ticks(x, 2);
        x.deliver(0);
        x.tick();
        Due.is("tick: ACK when it has asked again", x.deliver(0), 3);
        Nets.station(x, "tick: comes too late", 0, Nets.STATE, 2);
    }

    /** With LEASE 8 a late ACK leaves no tick between the probe's end, renewing, rebinding and the end. */
    private static void oneThingATick() {
        BootNet x = net(8, 3);
        x.boot(0);
        Nets.deliver(x, 0, 2);
        Nets.ticks(x, 2);
        Nets.deliver(x, 0, 2);
        int[] states = {3, 3, 4, 5, 6, 1};
        for (int i = 0; i < states.length; i++) {
            x.tick();
            Nets.station(x, "tick: at " + (3 + i), 0, Nets.STATE, states[i]);
        }
    }

    private static void askingGoesBeforeLoading() {
        BootNet x = reading(12, 5);
        x.alter(0, false);
        int[] kinds = {-1, -1, 2, 8, -1, 2, 8, 2, 0};
        int[] states = {4, 4, 5, 5, 5, 5, 5, 6, 1};
        for (int i = 0; i < kinds.length; i++) {
            Due.is("tick: messages at " + (4 + i), x.tick(), kinds[i] < 0 ? 0 : 1);
            Due.is("tick: kind at " + (4 + i), x.message(0, 0), kinds[i]);
            Nets.station(x, "tick: at " + (4 + i), 0, Nets.STATE, states[i]);
            Nets.station(x, "tick: at " + (4 + i), 0, Nets.RESULT, i < 8 ? 1 : 0);
            Nets.loseAll(x);
        }
    }

    private static void renewingHasNoLimit() {
        BootNet x = net(60, 1);
        Nets.bind(x, 0);
        Nets.ticks(x, 56);
        Nets.station(x, "tick: rebinding at 59", 0, Nets.STATE, 6);
        Due.is("tick: eight asks from 30 on, three from 53 on", Nets.underWay(x), 11);
    }

    private static void failsAfter(BootNet x, String where, int ticks, int state) {
        Nets.ticks(x, ticks - 1);
        Nets.station(x, where + ", not yet", 0, Nets.STATE, state);
        x.tick();
        Nets.station(x, where, 0, Nets.STATE, 7);
    }

    private static void triesBeginAgainWithAnOffer() {
        BootNet x = net(20, 3);
        x.boot(0);
        Nets.ticks(x, 8);
        Nets.loseFrom(x, 1);
        Nets.deliver(x, 0, 2);
        failsAfter(x, "tick: three tries from the OFFER on", 9, 2);
    }

    private static void triesBeginAgainWithANak() {
        BootNet x = net(20, 3);
        x.boot(0);
        Nets.deliver(x, 0, 2);
        Nets.ticks(x, 8);
        x.crash();
        Nets.loseFrom(x, 3);
        Due.is("tick: the last REQUEST", x.deliver(2), 2);
        Due.is("tick: NAK", x.deliver(2), 4);
        Nets.station(x, "tick: selecting", 0, Nets.STATE, 1);
        failsAfter(x, "tick: three tries from the NAK on", 9, 1);
    }

    private static void triesBeginAgainAtTheEndOfALease() {
        BootNet x = net(8, 2);
        x.boot(0);
        Nets.ticks(x, 3);
        Nets.loseFrom(x, 1);
        Nets.settle(x);
        Nets.ticks(x, 8);
        Nets.station(x, "tick: the lease is over", 0, Nets.STATE, 1);
        failsAfter(x, "tick: two tries from there on", 6, 1);
    }

    private static void loadTriesBeginAgainWithData() {
        BootNet x = reading(60, 2);
        Nets.ticks(x, 5);
        Due.is("tick: READ twice", Nets.underWay(x), 2);
        x.deliver(0);
        Due.is("tick: DATA", x.deliver(1), 9);
        Nets.ticks(x, 5);
        Nets.station(x, "tick: two tries from the DATA on, not yet", 0, Nets.RESULT, 1);
        x.tick();
        Nets.station(x, "tick: two tries from the DATA on", 0, Nets.RESULT, 6);
    }

    private static void transferTriesBeginAgainWithANewBlock() {
        BootNet x = reading(60, 2);
        Nets.deliver(x, 0, 2);
        Nets.ticks(x, 5);
        Due.is("tick: block 1 again", x.message(1, 4), 1);
        Nets.loseFrom(x, 1);
        x.deliver(0);
        Nets.message(x, "tick: block 2", 0, 9, 0, 0, 0, 2, 4, 0);
        Due.is("tick: not due", x.tick() + x.tick(), 2);
        Due.is("tick: due", x.tick(), 2);
        Nets.message(x, "tick: block 2 again", 1, 9, 0, 0, 0, 2, 4, 0);
        Nets.ticks(x, 3);
        Due.is("tick: the second try was the last", Nets.underWay(x), 2);
    }

    private static void transferGoesOnWithoutItsStation() {
        BootNet x = reading(60, 2);
        x.deliver(0);
        x.boot(0);
        Nets.loseAll(x);
        Nets.ticks(x, 3);
        Nets.message(x, "tick: the station's DISCOVER first", 0, 0, 0);
        Nets.message(x, "tick: the server's DATA behind it", 1, 9, 0, 0, 0, 1, 4, 0);
    }

    private static void leastStationFirst() {
        BootNet x = net(20, 3);
        x.attach(0);
        x.attach(2);
        x.boot(2);
        x.boot(0);
        x.boot(1);
        Nets.loseAll(x);
        Due.is("tick: not due", x.tick() + x.tick(), 0);
        Due.is("tick: three are due", x.tick(), 3);
        Nets.message(x, "tick: the least", 0, 0, 0, 2, 0, 0, 0, 0);
        Nets.message(x, "tick: the next", 1, 0, 1, 3, 0, 0, 0, 0);
        Nets.message(x, "tick: the last", 2, 0, 2, 1, 0, 0, 0, 0);
    }

    private static void offAndFailedAreSilent() {
        BootNet x = net(8, 1);
        x.attach(0);
        x.boot(1);
        Nets.ticks(x, 3);
        Nets.loseAll(x);
        Nets.station(x, "tick: failed", 1, Nets.STATE, 7);
        for (int t = 4; t < 30; t++) {
            Due.is("tick: silence at " + t, x.tick(), 0);
            Nets.station(x, "tick: off", 0, Nets.STATE, 0);
            Nets.station(x, "tick: failed", 1, Nets.STATE, 7);
        }
    }
}
