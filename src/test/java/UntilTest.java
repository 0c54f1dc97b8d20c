/**
 * THE SERVER: "what is until a tick holds as long as NOW is below that tick": for leases, offers and bars the
 * last tick at which each holds and the first at which it does not, in all that the server does.
 */
public final class UntilTest {
    private static final int[] LEASES = {8, 9, 20, 60};

    public static void main(String[] args) {
        leaseIsTold();
        leaseKeepsAnotherAway();
        leaseLetsTheStationRequest();
        leaseLetsTheStationDecline();
        leaseGoesBeforeTheReservedOne();
        leaseIsMadeAnewByACrash();
        offerIsTold();
        offerKeepsAnotherAway();
        offerLetsTheStationRequest();
        offerIsMadeLonger();
        barIsTold();
        barKeepsAllAway();
        barKeepsTheStationFromRequesting();
        barIsMadeLonger();
        Due.end();
    }

    /** A pool of so many addresses and two stations; NOW is 2, so that no tick is a lease's length by chance. */
    private static BootNet net(int lease, int high) {
        BootNet x = Nets.net(lease, 5, 4, 2, high);
        Nets.ticks(x, 2);
        return x;
    }

    /** Address 1 is leased to station 0 until 2 + lease; message 0 is the REQUEST that came, once more. */
    private static BootNet leased(int lease, int high) {
        BootNet x = net(lease, high);
        x.boot(0);
        Nets.deliver(x, 0, 2);
        x.alter(0, true);
        x.deliver(0);
        Nets.loseFrom(x, 1);
        return x;
    }

    /** NOW grows to a tick; of what is under way, what was under way before stays. */
    private static void goTo(BootNet x, int from, int to) {
        int stay = Nets.underWay(x);
        Nets.ticks(x, to - from);
        Nets.loseFrom(x, stay);
    }

    /** What the server answers when a station boots and its DISCOVER arrives: the address, NONE if nothing. */
    private static int offeredTo(BootNet x, int station) {
        int stay = Nets.underWay(x);
        x.boot(station);
        x.deliver(stay);
        return x.message(stay, 3);
    }

    private static void leaseIsTold() {
        for (int lease : LEASES) {
            BootNet x = leased(lease, 1);
            Due.is("until: leased", x.lease(1, 0), 0);
            goTo(x, 2, lease + 1);
            Due.is("until: lease below its tick", x.lease(1, 0), 0);
            Due.is("until: its tick", x.lease(1, 1), lease + 2);
            x.tick();
            Due.is("until: lease at its tick", x.lease(1, 0), BootNet.NONE);
            Due.is("until: no tick", x.lease(1, 1), BootNet.NONE);
        }
    }

    private static void leaseKeepsAnotherAway() {
        for (int lease : LEASES) {
            BootNet x = leased(lease, 1);
            goTo(x, 2, lease + 1);
            Due.is("until: leased to another", offeredTo(x, 1), BootNet.NONE);
            x.tick();
            Nets.loseFrom(x, 1);
            Due.is("until: leased to nobody", offeredTo(x, 1), 1);
        }
    }

    private static void leaseLetsTheStationRequest() {
        for (int late = 0; late <= 1; late++) {
            BootNet x = leased(20, 1);
            goTo(x, 2, 21 + late);
            Due.is("until: REQUEST", x.deliver(0), 2);
            Nets.message(x, "until: answer at " + (21 + late), 0, late == 0 ? 3 : 4, 0, 2, 1);
            Due.is("until: lease then", x.lease(1, 1), late == 0 ? 41 : BootNet.NONE);
            Due.is("until: records then", x.journal(), 2 - late);
        }
    }

    private static void leaseLetsTheStationDecline() {
        for (int late = 0; late <= 1; late++) {
            BootNet x = net(20, 1);
            x.stranger(1, true);
            x.boot(0);
            Nets.deliver(x, 0, 6);
            Nets.loseFrom(x, 1);
            Due.is("until: DECLINE is under way", x.message(0, 0), 5);
            goTo(x, 2, 21 + late);
            Due.is("until: DECLINE", x.deliver(0), 5);
            Due.is("until: barred at " + (21 + late), x.lease(1, 3), late == 0 ? 41 : BootNet.NONE);
        }
    }

    private static void leaseGoesBeforeTheReservedOne() {
        for (int late = 0; late <= 1; late++) {
            BootNet x = leased(20, 1);
            x.reserve(0, 7);
            goTo(x, 2, 21 + late);
            Due.is("until: offered at " + (21 + late), offeredTo(x, 0), late == 0 ? 1 : 7);
        }
    }

    private static void leaseIsMadeAnewByACrash() {
        for (int late = 0; late <= 1; late++) {
            BootNet x = leased(20, 1);
            goTo(x, 2, 21 + late);
            Due.is("until: a crash, one record", x.crash(), 1);
            Due.is("until: lease at " + (21 + late), x.lease(1, 0), late == 0 ? 0 : BootNet.NONE);
            Due.is("until: its tick", x.lease(1, 1), late == 0 ? 22 : BootNet.NONE);
            Due.is("until: the record stays", x.journal(), 1);
        }
    }

    /** Address 1 is offered to station 0 until 8; message 0 is the REQUEST, which did not come. */
    private static BootNet offered(int high) {
        BootNet x = net(20, high);
        x.boot(0);
        Nets.deliver(x, 0, 2);
        return x;
    }

    private static void offerIsTold() {
        BootNet x = offered(1);
        Due.is("until: offered", x.lease(1, 2), 0);
        goTo(x, 2, 7);
        Due.is("until: offer below its tick", x.lease(1, 2), 0);
        x.tick();
        Due.is("until: offer at its tick", x.lease(1, 2), BootNet.NONE);
    }

    private static void offerKeepsAnotherAway() {
        BootNet x = offered(1);
        goTo(x, 2, 7);
        Due.is("until: offered to another", offeredTo(x, 1), BootNet.NONE);
        x.tick();
        Nets.loseFrom(x, 1);
        Due.is("until: offered to nobody", offeredTo(x, 1), 1);
        Due.is("until: offered to the other now", x.lease(1, 2), 1);
    }

    private static void offerLetsTheStationRequest() {
        for (int late = 0; late <= 1; late++) {
            BootNet x = offered(1);
            goTo(x, 2, 7 + late);
            Due.is("until: REQUEST", x.deliver(0), 2);
            Nets.message(x, "until: answer at " + (7 + late), 0, late == 0 ? 3 : 4, 0, 2, 1);
            Due.is("until: lease then", x.lease(1, 1), late == 0 ? 27 : BootNet.NONE);
            Due.is("until: no offer then", x.lease(1, 2), BootNet.NONE);
        }
    }

    private static void offerIsMadeLonger() {
        BootNet x = offered(1);
        goTo(x, 2, 7);
        Due.is("until: offered again", offeredTo(x, 0), 1);
        Nets.loseAll(x);
        goTo(x, 7, 12);
        Due.is("until: longer", x.lease(1, 2), 0);
        x.tick();
        Due.is("until: no longer", x.lease(1, 2), BootNet.NONE);
    }

    /** Address 1 is leased to station 0 until 2 + lease and barred until 3 + lease; nothing is under way. */
    private static BootNet barred(int lease, int high) {
        BootNet x = net(lease, high);
        x.stranger(1, true);
        x.boot(0);
        Nets.deliver(x, 0, 6);
        x.tick();
        x.deliver(0);
        Nets.loseAll(x);
        return x;
    }

    private static void barIsTold() {
        for (int lease : LEASES) {
            BootNet x = barred(lease, 1);
            Due.is("until: barred", x.lease(1, 3), lease + 3);
            goTo(x, 3, lease + 2);
            Due.is("until: bar below its tick", x.lease(1, 3), lease + 3);
            x.tick();
            Due.is("until: bar at its tick", x.lease(1, 3), BootNet.NONE);
        }
    }

    private static void barKeepsAllAway() {
        for (int station = 0; station <= 1; station++) {
            for (int lease : LEASES) {
                BootNet x = barred(lease, 1);
                goTo(x, 3, lease + 2);
                Due.is("until: no lease holds any more", x.lease(1, 0), BootNet.NONE);
                Due.is("until: barred", offeredTo(x, station), BootNet.NONE);
                x.tick();
                Nets.loseAll(x);
                Due.is("until: not barred", offeredTo(x, station), 1);
            }
        }
    }

    private static void barKeepsTheStationFromRequesting() {
        BootNet x = net(20, 2);
        x.stranger(1, true);
        x.boot(0);
        Nets.deliver(x, 0, 2);
        x.alter(0, true);
        Nets.deliver(x, 1, 4);
        Due.is("until: leased", x.lease(1, 0), 0);
        Due.is("until: DECLINE", x.deliver(1), 5);
        Due.is("until: barred", x.lease(1, 3), 22);
        Due.is("until: leased all the same", x.lease(1, 0), 0);
        Due.is("until: REQUEST", x.deliver(0), 2);
        Nets.message(x, "until: NAK", 1, 4, 0, 2, 1, 0, 0, 0);
        Due.is("until: nothing is recorded", x.journal(), 1);
    }

    private static void barIsMadeLonger() {
        BootNet x = net(20, 1);
        x.stranger(1, true);
        x.boot(0);
        Nets.deliver(x, 0, 6);
        Nets.loseFrom(x, 1);
        x.alter(0, true);
        x.deliver(0);
        Due.is("until: barred", x.lease(1, 3), 22);
        goTo(x, 2, 21);
        Due.is("until: DECLINE again", x.deliver(0), 5);
        Due.is("until: longer", x.lease(1, 3), 41);
        Nets.ticks(x, 19);
        Due.is("until: the longer one holds", x.lease(1, 3), 41);
        x.tick();
        Due.is("until: not any more", x.lease(1, 3), BootNet.NONE);
    }
}
