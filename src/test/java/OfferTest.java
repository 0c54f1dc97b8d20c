/** DISCOVER: which address is offered, and each thing by itself that makes an address not free for a station. */
public final class OfferTest {
    public static void main(String[] args) {
        leastOfThePool();
        fullPool();
        barredForItself();
        leasedToAnother();
        offeredToAnother();
        reservedForAnother();
        ownOfferIsNoObstacle();
        reservedOneThatIsBarred();
        reservedOneThatIsLeasedToAnother();
        reservedOneThatIsOfferedToAnother();
        leastOfTwoLeases();
        leaseThatIsReservedForAnother();
        requestOfWhatIsReservedForAnother();
        offersToOthersStay();
        olderOfferIsGone();
        offerIsGoneWithTheAck();
        Due.end();
    }

    private static BootNet net(int stations, int high) {
        return Nets.net(20, 5, 4, stations, high);
    }

    /** What is offered to a station that boots when nothing is under way: the address, NONE if none is. */
    private static int offered(BootNet x, int station) {
        x.boot(station);
        x.deliver(0);
        int address = x.message(0, 3);
        Nets.loseAll(x);
        return address;
    }

    /** A station boots and gets the lease of what is offered to it. */
    private static void lease(BootNet x, int station) {
        x.boot(station);
        Nets.deliver(x, 0, 3);
        Nets.loseAll(x);
    }

    private static void leastOfThePool() {
        BootNet x = net(6, 9);
        for (int s = 5; s >= 0; s--) {
            Due.is("offer: the least that is free", offered(x, s), 6 - s);
        }
    }

    private static void fullPool() {
        BootNet x = net(3, 2);
        Due.is("offer: the first", offered(x, 0), 1);
        Due.is("offer: the last", offered(x, 1), 2);
        Due.is("offer: none is left", offered(x, 2), BootNet.NONE);
        for (int address = 3; address <= 9; address++) {
            Due.is("offer: none beyond the pool", x.lease(address, 2), BootNet.NONE);
        }
    }

    /** A stranger at address n: the station declines it, so that it is barred (and leased to the station). */
    private static void bar(BootNet x, int station, int n) {
        x.stranger(n, true);
        x.boot(station);
        Nets.deliver(x, 0, 7);
        Nets.loseAll(x);
        Due.is("offer: leased", x.lease(n, 0), station);
        Due.is("offer: barred", x.lease(n, 3), 20);
    }

    private static void barredForItself() {
        BootNet x = net(2, 2);
        bar(x, 0, 1);
        Due.is("offer: barred for the one that has the lease", offered(x, 0), 2);
        x.crash();
        Due.is("offer: the bar alone was in the way", offered(x, 0), 1);
    }

    private static void leasedToAnother() {
        BootNet x = net(2, 2);
        lease(x, 0);
        Due.is("offer: leased to another", offered(x, 1), 2);
    }

    private static void offeredToAnother() {
        BootNet x = net(2, 2);
        Due.is("offer: the first", offered(x, 0), 1);
        Due.is("offer: offered to another", offered(x, 1), 2);
    }

    private static void reservedForAnother() {
        BootNet x = net(2, 2);
        x.reserve(1, 1);
        Due.is("offer: reserved for another", offered(x, 0), 2);
        x.reserve(1, 2);
        Due.is("offer: reserved no more", offered(x, 0), 1);
    }

    private static void ownOfferIsNoObstacle() {
        BootNet x = net(1, 2);
        Due.is("offer: the first", offered(x, 0), 1);
        Due.is("offer: the same again", offered(x, 0), 1);
        lease(x, 0);
        Due.is("offer: the same when it is leased", offered(x, 0), 1);
    }

    private static void reservedOneThatIsBarred() {
        BootNet x = net(1, 3);
        x.reserve(0, 7);
        bar(x, 0, 7);
        Due.is("offer: one of the pool", offered(x, 0), 1);
    }

    private static void reservedOneThatIsLeasedToAnother() {
        BootNet x = net(2, 3);
        lease(x, 0);
        Due.yes("offer: it is reserved", x.reserve(1, 1));
        Due.is("offer: but leased to another", offered(x, 1), 2);
        Nets.ticks(x, 20);
        Nets.loseAll(x);
        Due.is("offer: not leased any more", offered(x, 1), 1);
    }

    private static void reservedOneThatIsOfferedToAnother() {
        BootNet x = net(2, 3);
        Due.is("offer: the first", offered(x, 0), 1);
        Due.yes("offer: it is reserved", x.reserve(1, 1));
        Due.is("offer: but offered to another", offered(x, 1), 2);
        Nets.ticks(x, 6);
        Nets.loseAll(x);
        Due.is("offer: not offered any more", offered(x, 1), 1);
    }

    private static void leastOfTwoLeases() {
        BootNet x = net(1, 3);
        bar(x, 0, 1);
        lease(x, 0);
        Due.is("offer: leased too", x.lease(2, 0), 0);
        x.reserve(0, 3);
        Due.is("offer: the lease that is not barred", offered(x, 0), 2);
        x.crash();
        Due.is("offer: the least of both", offered(x, 0), 1);
    }

    private static void leaseThatIsReservedForAnother() {
        BootNet x = net(2, 3);
        lease(x, 0);
        x.reserve(1, 1);
        Due.is("offer: another one", offered(x, 0), 2);
        Due.is("offer: leased all the same", x.lease(1, 0), 0);
    }

    /** What was offered or leased before it was reserved for another can be had, though it is not free. */
    private static void requestOfWhatIsReservedForAnother() {
        BootNet x = net(2, 3);
        x.boot(0);
        Nets.deliver(x, 0, 2);
        x.alter(0, true);
        x.reserve(1, 1);
        Due.is("offer: REQUEST of what is offered", x.deliver(0), 2);
        Due.is("offer: ACK", x.message(1, 0), 3);
        Due.is("offer: REQUEST of what is leased", x.deliver(0), 2);
        Due.is("offer: ACK", x.message(1, 0), 3);
    }

    private static void offersToOthersStay() {
        BootNet x = net(3, 3);
        for (int s = 0; s < 3; s++) {
            offered(x, s);
        }
        for (int s = 0; s < 3; s++) {
            Due.is("offer: each has its own", x.lease(s + 1, 2), s);
        }
    }

    private static void olderOfferIsGone() {
        BootNet x = net(2, 3);
        Due.is("offer: of the pool", offered(x, 0), 1);
        x.reserve(0, 9);
        Due.is("offer: the reserved one", offered(x, 0), 9);
        Due.is("offer: the older is gone", x.lease(1, 2), BootNet.NONE);
        Due.is("offer: and free for another", offered(x, 1), 1);
    }

    private static void offerIsGoneWithTheAck() {
        BootNet x = net(1, 1);
        x.boot(0);
        Nets.deliver(x, 0, 2);
        Due.is("offer: until the REQUEST comes", x.lease(1, 2), 0);
        x.deliver(0);
        Due.is("offer: ACK", x.message(0, 0), 3);
        Due.is("offer: gone", x.lease(1, 2), BootNet.NONE);
        Due.is("offer: leased instead", x.lease(1, 0), 0);
    }
}
