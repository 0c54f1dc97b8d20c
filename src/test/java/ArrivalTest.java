/** What arrives at a station: conflicts up to LIMIT, who answers a PROBE, and what does nothing in which state. */
public final class ArrivalTest {
    public static void main(String[] args) {
        for (int limit = 1; limit <= 5; limit++) {
            conflictsAreLimit(limit);
        }
        conflictsBeginAgainWithBoot();
        probeIsAnsweredByWhoHolds();
        probeIsNotAnsweredToItself();
        probeIsAnsweredByAStrangerOfThatTick();
        hereOfAnEarlierProbe();
        for (int state = 1; state <= 7; state++) {
            earlierMessagesDoNothing(state);
        }
        ackAgainDoesNothing();
        nakWhenItHasBeenAnswered();
        nakWhenItAsks();
        Due.end();
    }

    private static BootNet net(int lease, int limit, int stations, int high) {
        return Nets.net(lease, limit, 4, stations, high);
    }

    private static void conflictsAreLimit(int limit) {
        BootNet x = net(60, limit, 1, 9);
        for (int n = 1; n <= 9; n++) {
            x.stranger(n, true);
        }
        x.boot(0);
        for (int c = 1; c <= limit; c++) {
            String where = "arrival: conflict " + c + " of " + limit;
            Nets.deliver(x, 0, 5);
            Nets.station(x, where + ": before", 0, Nets.CONFLICTS, c - 1);
            Due.is(where + ": HERE", x.deliver(0), 7);
            Nets.station(x, where, 0, Nets.CONFLICTS, c);
            Nets.station(x, where, 0, Nets.STATE, c < limit ? 1 : 7);
            Nets.station(x, where, 0, Nets.RESULT, c < limit ? 0 : 8);
            Nets.station(x, where, 0, Nets.ADDRESS, 0);
            Nets.message(x, where + ": DECLINE", 0, 5, 0, 0, c, 0, 0, 0);
            Due.is(where + ": DISCOVER", x.message(1, 0), c < limit ? 0 : BootNet.NONE);
            x.deliver(0);
        }
    }

    private static void conflictsBeginAgainWithBoot() {
        BootNet x = net(60, 2, 1, 9);
        x.stranger(1, true);
        x.stranger(2, true);
        x.boot(0);
        Nets.deliver(x, 0, 7);
        Nets.station(x, "arrival: one conflict", 0, Nets.CONFLICTS, 1);
        Nets.loseAll(x);
        x.boot(0);
        Nets.settle(x);
        Nets.station(x, "arrival: one conflict again", 0, Nets.CONFLICTS, 1);
        Nets.station(x, "arrival: and a third address", 0, Nets.ADDRESS, 3);
    }

    /** PROBEs of station 0 from long ago arrive while station 1 has the address in one state after the other. */
    private static void probeIsAnsweredByWhoHolds() {
        BootNet x = net(8, 1, 2, 1);
        x.boot(0);
        Nets.deliver(x, 0, 4);
        Nets.fillTo(x, 0, 8);
        Nets.ticks(x, 11);
        Nets.loseFrom(x, 8);
        Nets.station(x, "arrival: the first has failed", 0, Nets.STATE, 7);
        probeArrives(x, 0, false);
        x.boot(1);
        probeArrives(x, 1, false);
        Nets.deliver(x, Nets.underWay(x) - 1, 2);
        probeArrives(x, 2, false);
        Nets.deliver(x, Nets.underWay(x) - 1, 2);
        probeArrives(x, 3, false);
        Nets.ticks(x, 3);
        probeArrives(x, 4, true);
        x.tick();
        probeArrives(x, 5, true);
        Nets.ticks(x, 3);
        probeArrives(x, 6, true);
        x.tick();
        probeArrives(x, 1, false);
    }

    private static void probeArrives(BootNet x, int state, boolean answered) {
        Nets.station(x, "arrival: the other", 1, Nets.STATE, state);
        int count = Nets.underWay(x);
        Due.is("arrival: PROBE", x.deliver(0), 6);
        Due.is("arrival: answers in state " + state, Nets.underWay(x) - (count - 1), answered ? 1 : 0);
        if (answered) {
            Nets.message(x, "arrival: HERE", count - 1, 7, 0, 0, 1, 0, 0, 0);
            x.alter(count - 1, false);
        }
    }

    private static void probeIsNotAnsweredToItself() {
        BootNet x = net(20, 3, 1, 1);
        x.boot(0);
        Nets.deliver(x, 0, 4);
        Nets.ticks(x, 3);
        Nets.station(x, "arrival: it holds the address itself", 0, Nets.STATE, 4);
        Due.is("arrival: PROBE", x.deliver(0), 6);
        Due.is("arrival: nobody answers", Nets.underWay(x), 0);
    }

    private static void probeIsAnsweredByAStrangerOfThatTick() {
        for (int there = 0; there <= 1; there++) {
            BootNet x = net(20, 3, 1, 1);
            if (there == 0) {
                x.stranger(1, true);
            }
            x.boot(0);
            Nets.deliver(x, 0, 4);
            x.stranger(1, there == 1);
            Due.is("arrival: PROBE", x.deliver(0), 6);
            Due.is("arrival: a stranger is there: " + there, x.message(0, 0), there == 1 ? 7 : BootNet.NONE);
        }
    }

    /** A HERE does nothing to who has the address but does not probe, and is as good as new to who does. */
    private static void hereOfAnEarlierProbe() {
        BootNet x = net(20, 3, 1, 9);
        x.stranger(1, true);
        x.boot(0);
        Nets.deliver(x, 0, 5);
        x.stranger(1, false);
        x.alter(0, true);
        x.alter(0, true);
        x.boot(0);
        Nets.deliver(x, 3, 2);
        Nets.station(x, "arrival: requesting the same address", 0, Nets.ADDRESS, 1);
        Due.is("arrival: HERE", x.deliver(0), 7);
        Nets.station(x, "arrival: does nothing", 0, Nets.STATE, 2);
        Nets.deliver(x, 2, 2);
        Nets.station(x, "arrival: probing it", 0, Nets.STATE, 3);
        Due.is("arrival: HERE", x.deliver(0), 7);
        Nets.station(x, "arrival: a conflict", 0, Nets.CONFLICTS, 1);
        Due.is("arrival: HERE when selecting", x.deliver(0), 7);
        Nets.station(x, "arrival: does nothing", 0, Nets.CONFLICTS, 1);
    }

    /** Messages 0 .. 3 are NAK, OFFER, ACK and HERE (of address 1) for an earlier life of station 0, of numbers 2 .. 4. */
    private static BootNet earlierMessages() {
        BootNet x = net(20, 5, 2, 9);
        x.boot(0);
        Nets.deliver(x, 0, 2);
        x.crash();
        x.deliver(0);
        x.boot(0);
        x.deliver(1);
        x.alter(1, true);
        Nets.deliver(x, 2, 2);
        x.alter(2, true);
        x.deliver(3);
        x.stranger(1, true);
        x.deliver(3);
        x.stranger(1, false);
        x.reserve(1, 1);
        Nets.message(x, "arrival: NAK", 0, 4, 0, 2, 1);
        Nets.message(x, "arrival: OFFER", 1, 1, 0, 3, 1);
        Nets.message(x, "arrival: ACK", 2, 3, 0, 4, 1);
        Nets.message(x, "arrival: HERE", 3, 7, 0, 0, 1);
        return x;
    }

    private static void earlierMessagesDoNothing(int state) {
        BootNet x = earlierMessages();
        x.boot(0);
        if (state > 1 && state < 7) {
            Nets.deliver(x, 4, state == 2 ? 2 : 4);
        }
        Nets.loseFrom(x, 4);
        int[] ticks = {0, 0, 0, 0, 3, 10, 18, 15};
        Nets.ticks(x, ticks[state]);
        Nets.loseFrom(x, 4);
        Nets.station(x, "arrival: reached", 0, Nets.STATE, state);
        Nets.station(x, "arrival: another address", 0, Nets.ADDRESS, state > 1 && state < 7 ? 2 : 0);
        String before = Picture.of(x);
        for (int k = 0; k < 4; k++) {
            x.alter(k, true);
            x.deliver(4);
        }
        Due.yes("arrival: earlier messages do nothing in state " + state, Picture.of(x).equals(before));
    }

    private static void ackAgainDoesNothing() {
        BootNet x = net(20, 3, 1, 9);
        x.boot(0);
        Nets.deliver(x, 0, 3);
        Nets.fillTo(x, 0, 3);
        x.deliver(0);
        Nets.loseFrom(x, 2);
        x.tick();
        Due.is("arrival: ACK again", x.deliver(0), 3);
        Due.is("arrival: no PROBE again", Nets.underWay(x), 1);
        Nets.ticks(x, 2);
        Nets.station(x, "arrival: the probe ends when it would have", 0, Nets.STATE, 4);
        Due.is("arrival: ACK again", x.deliver(0), 3);
        Nets.station(x, "arrival: bound stays bound", 0, Nets.STATE, 4);
        Due.is("arrival: no PROBE again", Nets.underWay(x), 0);
    }

    /** A DECLINE from before lets the same REQUEST be answered by ACK first and by NAK then. */
    private static void nakWhenItHasBeenAnswered() {
        for (int state = 3; state <= 4; state++) {
            BootNet x = net(20, 3, 1, 9);
            x.stranger(1, true);
            x.boot(0);
            Nets.deliver(x, 0, 6);
            x.stranger(1, false);
            Nets.deliver(x, 1, 2);
            x.alter(1, true);
            Nets.deliver(x, 2, 2);
            Nets.ticks(x, state == 3 ? 0 : 3);
            Nets.station(x, "arrival: reached", 0, Nets.STATE, state);
            Nets.loseFrom(x, 2);
            Due.is("arrival: DECLINE", x.deliver(0), 5);
            Due.is("arrival: REQUEST", x.deliver(0), 2);
            Nets.message(x, "arrival: NAK with its number", 0, 4, 0, x.station(0, Nets.NUMBER), 1);
            x.deliver(0);
            Nets.station(x, "arrival: does nothing", 0, Nets.STATE, state);
            Nets.station(x, "arrival: does nothing", 0, Nets.ADDRESS, 1);
            Due.is("arrival: does nothing", Nets.underWay(x), 0);
        }
    }

    private static void nakWhenItAsks() {
        int[] ticks = {0, 10, 18};
        int[] states = {2, 5, 6};
        for (int i = 0; i < states.length; i++) {
            BootNet x = net(20, 3, 1, 9);
            x.stranger(1, true);
            x.boot(0);
            Nets.deliver(x, 0, 6);
            x.stranger(1, false);
            Nets.deliver(x, 1, i == 0 ? 2 : 4);
            Nets.loseFrom(x, i == 0 ? 2 : 1);
            Nets.ticks(x, ticks[i]);
            Nets.station(x, "arrival: asks", 0, Nets.STATE, states[i]);
            Due.is("arrival: DECLINE", x.deliver(0), 5);
            int last = Nets.underWay(x) - 1;
            Due.is("arrival: REQUEST", x.deliver(last), 2);
            Due.is("arrival: NAK", x.deliver(last), 4);
            Nets.station(x, "arrival: selects", 0, Nets.STATE, 1);
            Nets.station(x, "arrival: without an address", 0, Nets.ADDRESS, 0);
            Nets.message(x, "arrival: DISCOVER", last, 0, 0, x.station(0, Nets.NUMBER), 0);
        }
    }
}
