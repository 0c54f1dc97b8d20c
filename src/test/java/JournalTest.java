/** THE SERVER, to RECORD: a journal of 16, what is dropped from it when it is full, and when a record fails. */
public final class JournalTest {
    public static void main(String[] args) {
        fifteenAreLeftAsTheyAre();
        notTheLatestOfTheirAddressAreDropped();
        theLatestIsKeptWhereverItStands();
        whatIsKeptMovesWhole();
        tickNotAboveNowIsDropped(59);
        tickNotAboveNowIsDropped(60);
        tickNotAboveNowIsDropped(61);
        sixteenLatestOnesFail();
        failedRequestLeavesTheOffer();
        failedRenewalLeavesTheLease();
        renewalThatFailsEndsTheHolding();
        roomForOneIsEnough();
        crashCountsThem();
        Due.end();
    }

    /** Stations 0 and 1 with a lease each, at NOW 0 and 1; messages 0 and 1 are their REQUESTs, once more. */
    private static BootNet twoLeases() {
        BootNet x = new BootNet(60, 3, 4);
        x.pool(0, 1, 9);
        for (int s = 0; s < 2; s++) {
            x.attach(0);
            x.boot(s);
            Nets.deliver(x, s, 2);
            x.alter(s, true);
            x.deliver(s);
            Nets.loseFrom(x, s + 1);
            Nets.ticks(x, 1 - s);
        }
        Due.is("journal: one of each", x.journal(), 2);
        return x;
    }

    /** REQUEST k, once more, arrives so often; the answers are lost. */
    private static void request(BootNet x, int k, int times) {
        for (int i = 0; i < times; i++) {
            int last = Nets.underWay(x);
            x.alter(k, true);
            Due.is("journal: REQUEST", x.deliver(last), 2);
            Nets.loseFrom(x, last);
        }
    }

    private static void fifteenAreLeftAsTheyAre() {
        BootNet x = twoLeases();
        for (int n = 3; n <= 16; n++) {
            request(x, 1, 1);
            Due.is("journal: all are kept", x.journal(), n);
        }
    }

    private static void notTheLatestOfTheirAddressAreDropped() {
        BootNet x = twoLeases();
        request(x, 1, 14);
        Due.is("journal: 16", x.journal(), 16);
        request(x, 1, 1);
        Due.is("journal: the latest of each address, and the new one", x.journal(), 3);
        Due.is("journal: a crash finds them", x.crash(), 3);
        Due.is("journal: first lease", x.lease(1, 1), 60);
        Due.is("journal: second lease", x.lease(2, 1), 61);
        request(x, 1, 13);
        Due.is("journal: 16 again", x.journal(), 16);
        request(x, 0, 1);
        Due.is("journal: and dropped again", x.journal(), 3);
    }

    /** Records of one address stand before and behind those of the other; the latest is the last of them. */
    private static void theLatestIsKeptWhereverItStands() {
        BootNet x = twoLeases();
        x.tick();
        Nets.loseFrom(x, 2);
        request(x, 0, 1);
        request(x, 1, 12);
        x.tick();
        Nets.loseFrom(x, 2);
        request(x, 1, 1);
        Due.is("journal: 16", x.journal(), 16);
        x.tick();
        Nets.loseFrom(x, 2);
        request(x, 1, 1);
        Due.is("journal: one of each and the new one", x.journal(), 3);
        x.crash();
        Due.is("journal: the later of the first address", x.lease(1, 1), 62);
        Due.is("journal: the new one of the second", x.lease(2, 1), 64);
    }

    /** The first record is dropped, so that the second one, of another station, is the first. */
    private static void whatIsKeptMovesWhole() {
        BootNet x = twoLeases();
        request(x, 0, 15);
        Due.is("journal: one of each and the new one", x.journal(), 3);
        x.crash();
        Due.is("journal: the second address's station", x.lease(2, 0), 1);
        Due.is("journal: its tick", x.lease(2, 1), 61);
        Due.is("journal: the first address's station", x.lease(1, 0), 0);
        Due.is("journal: its tick", x.lease(1, 1), 61);
    }

    /** The first address's only record is until 60; the second address has fifteen until 61 and later. */
    private static void tickNotAboveNowIsDropped(int now) {
        BootNet x = twoLeases();
        request(x, 1, 13);
        for (int t = 2; t <= now; t++) {
            x.tick();
            Nets.loseFrom(x, 2);
            if (t == 40) {
                request(x, 1, 1);
            }
        }
        Due.is("journal: nothing is dropped by time", x.journal(), 16);
        request(x, 1, 1);
        Due.is("journal: kept at " + now, x.journal(), now < 60 ? 3 : 2);
        x.crash();
        Due.is("journal: first lease at " + now, x.lease(1, 1), now < 60 ? 60 : BootNet.NONE);
        Due.is("journal: second lease at " + now, x.lease(2, 1), now + 60);
    }

    /**
     * Sixteen addresses are leased: 1 to station 2 until 60, then 2 .. 9 to station 0 and 11 .. 17 to station 1
     * until 61, which find a stranger at each. Message 0 is the REQUEST of 1, message 1 that of 17 on its way to the
     * server, both once more. Station 3 is behind the relay too.
     */
    private static BootNet sixteenLeases() {
        BootNet x = twoPoolsOfStrangers();
        x.boot(2);
        Nets.deliver(x, 0, 2);
        x.alter(0, true);
        x.deliver(1);
        Nets.loseFrom(x, 1);
        x.tick();
        for (int i = 0; i < 8; i++) {
            leaseTheNext(x, 1, 0);
        }
        for (int i = 0; i < 6; i++) {
            leaseTheNext(x, 1, 1);
        }
        x.boot(1);
        Nets.deliver(x, 1, 5);
        x.alter(1, true);
        x.deliver(2);
        Nets.loseFrom(x, 2);
        return x;
    }

    private static BootNet twoPoolsOfStrangers() {
        BootNet x = new BootNet(60, 5, 4);
        for (int subnet = 0; subnet <= 1; subnet++) {
            x.pool(subnet, 1, 9);
            for (int n = 1; n <= 9; n++) {
                x.stranger(10 * subnet + n, true);
            }
        }
        for (int subnet : new int[] {0, 1, 0, 1}) {
            x.attach(subnet);
        }
        return x;
    }

    /**
     * Station 0, or 1 behind the relay, boots and gets the least address that it has not declined before, up to
     * its DECLINE's arrival. So many messages were under way, and are again.
     */
    private static void leaseTheNext(BootNet x, int underWay, int station) {
        x.boot(station);
        Nets.deliver(x, underWay, station == 0 ? 6 : 11);
        Due.is("journal: DECLINE", x.deliver(station == 0 ? underWay : underWay + 1), 5);
        Nets.loseFrom(x, underWay);
    }

    private static void sixteenLatestOnesFail() {
        BootNet x = sixteenLeases();
        Due.is("journal: 16", x.journal(), 16);
        Nets.message(x, "journal: REQUEST of 1", 0, 2, 2, 2, 1, 0, 0, 0);
        Nets.message(x, "journal: REQUEST of 17", 1, 2, 1, x.station(1, Nets.NUMBER), 17, 0, 0, 1);
        for (int address : Nets.ADDRESSES) {
            int until = address == 1 ? 60 : address <= 17 ? 61 : BootNet.NONE;
            Due.is("journal: lease of " + address, x.lease(address, 1), until);
        }
    }

    private static void failedRequestLeavesTheOffer() {
        BootNet x = sixteenLeases();
        x.boot(3);
        Nets.deliver(x, 2, 5);
        Nets.message(x, "journal: REQUEST of 18", 2, 2, 3, x.station(3, Nets.NUMBER), 18, 0, 0, 1);
        Due.is("journal: REQUEST", x.deliver(2), 2);
        Nets.message(x, "journal: NAK", 2, 4, 3, x.station(3, Nets.NUMBER), 18, 0, 0, 1);
        Due.is("journal: nothing is dropped", x.journal(), 16);
        Due.is("journal: no lease", x.lease(18, 0), BootNet.NONE);
        Due.is("journal: the offer stays", x.lease(18, 2), 3);
        Nets.deliver(x, 2, 2);
        Nets.station(x, "journal: it selects", 3, Nets.STATE, 1);
    }

    private static void failedRenewalLeavesTheLease() {
        BootNet x = sixteenLeases();
        Due.is("journal: REQUEST", x.deliver(0), 2);
        Nets.message(x, "journal: NAK", 1, 4, 2, 2, 1, 0, 0, 0);
        Due.is("journal: 16", x.journal(), 16);
        Due.is("journal: the lease stays", x.lease(1, 0), 2);
        Due.is("journal: with its tick", x.lease(1, 1), 60);
        Due.is("journal: REQUEST", x.deliver(0), 2);
        Nets.message(x, "journal: NAK", 1, 4, 1, x.station(1, Nets.NUMBER), 17, 0, 0, 1);
        Due.is("journal: that one stays too", x.lease(17, 1), 61);
    }

    /** A station that holds its address finds 16 live records, its own among them, when it renews at 30. */
    private static void renewalThatFailsEndsTheHolding() {
        BootNet x = sixteenLeasesOneHeld();
        Nets.station(x, "journal: it renews", 2, Nets.STATE, 5);
        int number = x.station(2, Nets.NUMBER);
        Nets.message(x, "journal: its REQUEST", 0, 2, 2, number, 1, 0, 0, 0);
        Due.is("journal: REQUEST", x.deliver(0), 2);
        Nets.message(x, "journal: NAK", 0, 4, 2, number, 1, 0, 0, 0);
        Due.is("journal: nothing is dropped", x.journal(), 16);
        Due.is("journal: the lease's tick stays", x.lease(1, 1), 60);
        Due.is("journal: NAK", x.deliver(0), 4);
        Nets.station(x, "journal: it selects", 2, Nets.STATE, 1);
        Nets.station(x, "journal: without an address", 2, Nets.ADDRESS, 0);
        Due.is("journal: DISCOVER", x.deliver(0), 0);
        Nets.message(x, "journal: OFFER of what is leased to it", 0, 1, 2, number + 1, 1, 0, 0, 0);
        Nets.deliver(x, 0, 2);
        Nets.message(x, "journal: NAK once more", 0, 4, 2, number + 2, 1, 0, 0, 0);
        Due.is("journal: the offer stays", x.lease(1, 2), 2);
    }

    /** Station 2 holds 1 until 60; at the other fifteen is a stranger. At 30, its REQUEST alone is under way. */
    private static BootNet sixteenLeasesOneHeld() {
        BootNet x = twoPoolsOfStrangers();
        x.stranger(1, false);
        x.boot(2);
        Nets.settle(x);
        Nets.ticks(x, 3);
        Nets.station(x, "journal: it holds", 2, Nets.STATE, 4);
        for (int i = 0; i < 15; i++) {
            leaseTheNext(x, 0, i < 8 ? 0 : 1);
        }
        for (int t = 4; t <= 30; t++) {
            Nets.loseAll(x);
            x.tick();
        }
        return x;
    }

    /** At 60 the first record is dropped, and the other fifteen leave room for one. */
    private static void roomForOneIsEnough() {
        for (int late = 0; late <= 1; late++) {
            BootNet x = sixteenLeases();
            for (int t = 2; t <= 59 + late; t++) {
                x.tick();
                Nets.loseFrom(x, 2);
            }
            Due.is("journal: REQUEST", x.deliver(1), 2);
            Due.is("journal: answer at " + (59 + late), x.message(1, 0), late == 0 ? 4 : 3);
            Due.is("journal: 16", x.journal(), 16);
            Due.is("journal: lease at " + (59 + late), x.lease(17, 1), late == 0 ? 61 : 120);
            Due.is("journal: a crash, 16 records", x.crash(), 16);
            Due.is("journal: lease after it", x.lease(17, 1), late == 0 ? 61 : 120);
        }
    }

    private static void crashCountsThem() {
        BootNet x = new BootNet(60, 3, 4);
        Due.is("journal: none", x.journal(), 0);
        Due.is("journal: a crash finds none", x.crash(), 0);
        x = twoLeases();
        Due.is("journal: a crash finds two", x.crash(), 2);
        request(x, 0, 14);
        Due.is("journal: 16", x.journal(), 16);
        Due.is("journal: a crash finds 16", x.crash(), 16);
        Due.is("journal: the latest one counts", x.lease(1, 1), 61);
    }
}
