import java.util.function.Predicate;
import java.util.function.Supplier;
import java.util.function.ToIntFunction;

/**
 * Every call that the document refuses, each of its cases by itself (all else about the call is right), with
 * arguments next to what is allowed and at both ends of int. "A call that is refused changes nothing": a twin
 * to which the call was never made answers everything alike, at once and later.
 */
public final class RefusedTest {
    public static void main(String[] args) {
        sceneIsBusy();
        poolWithoutSuchASubnet();
        poolOfASubnetThatHasOne();
        poolWithoutSuchARange();
        attachWithoutSuchASubnet();
        attachWhenThereAreSix();
        reserveWithoutSuchAStation();
        reserveWithoutSuchAnN();
        reserveWhatIsAnothers();
        strangerWithoutSuchAnAddress();
        strangerWhenThatIsSoAlready();
        putWithoutSuchAFile();
        putWithoutSuchAByte();
        putWhenItHasForty();
        entryWithoutSuchAFile();
        entryWithoutSuchALength();
        entryWhenThereAreFour();
        checkWithoutSuchAFile();
        bootWithoutSuchAStation();
        deliverWithoutSuchAMessage();
        alterWithoutSuchAMessage();
        alterTwiceWhenThereAreThirtyTwo();
        messageWithoutSuchAMessage();
        messageWithoutSuchAWhat();
        stationWithoutSuchAStation();
        stationWithoutSuchAWhat();
        imageWithoutSuchAByte();
        imageWithoutSuchAStation();
        leaseWithoutSuchAnAddress();
        leaseWithoutSuchAWhat();
        leaseWhereNoneHolds();
        askingChangesNothing();
        allArgumentsAtTheEndsOfInt();
        Due.end();
    }

    /** Three stations: one that loads (4 bytes so far), one behind the relay with an offer, one with a conflict. */
    private static BootNet busy() {
        BootNet x = new BootNet(30, 3, 4);
        x.pool(0, 1, 5);
        x.pool(1, 4, 6);
        x.attach(0);
        x.attach(1);
        x.attach(0);
        x.reserve(0, 3);
        x.reserve(1, 9);
        x.stranger(1, true);
        Nets.putCounting(x, 0, 6);
        x.entry(0, 6, x.check(0));
        x.entry(1, 0, 0);
        Nets.bind(x, 0);
        Nets.deliver(x, 0, 2);
        x.boot(2);
        Nets.deliver(x, 1, 7);
        x.boot(1);
        Nets.deliver(x, 2, 2);
        return x;
    }

    private static void sceneIsBusy() {
        BootNet x = busy();
        Due.is("scene: messages", Nets.underWay(x), 3);
        Nets.message(x, "scene: GOT", 0, 10, 0, 0, 0, 1, 0, 0);
        Nets.message(x, "scene: DISCOVER", 1, 0, 2, x.station(2, Nets.NUMBER), 0, 0, 0, 0);
        Nets.message(x, "scene: OFFER", 2, 1, 1, x.station(1, Nets.NUMBER), 19, 0, 0, 1);
        Nets.station(x, "scene: loads", 0, Nets.RESULT, 1);
        Nets.station(x, "scene: bytes", 0, Nets.BYTES, 4);
        Nets.station(x, "scene: conflict", 2, Nets.CONFLICTS, 1);
        Due.is("scene: lease", x.lease(3, 0), 0);
        Due.is("scene: bar", x.lease(1, 3), 33);
        Due.is("scene: offer", x.lease(19, 2), 1);
    }

    private static void answers(String why, Supplier<BootNet> scene, ToIntFunction<BootNet> call, int want) {
        BootNet now = scene.get();
        Due.is(why, call.applyAsInt(now), want);
        Due.yes(why + ": changes nothing", Picture.of(now).equals(Picture.of(scene.get())));
        BootNet later = scene.get();
        call.applyAsInt(later);
        Due.yes(why + ": changes nothing later", Picture.later(later).equals(Picture.later(scene.get())));
    }

    private static void no(String why, Supplier<BootNet> scene, Predicate<BootNet> call) {
        answers(why, scene, x -> call.test(x) ? 1 : 0, 0);
    }

    private static void no(String why, Predicate<BootNet> call) {
        no(why, RefusedTest::busy, call);
    }

    private static void none(String why, ToIntFunction<BootNet> call) {
        answers(why, RefusedTest::busy, call, BootNet.NONE);
    }

    private static void poolWithoutSuchASubnet() {
        for (int subnet : Nets.outside(0, 2)) {
            no("2: no subnet " + subnet, x -> x.pool(subnet, 1, 9));
        }
    }

    private static void poolOfASubnetThatHasOne() {
        no("2: it has that very pool", x -> x.pool(0, 1, 5));
        no("2: it has a pool, wider", x -> x.pool(0, 1, 9));
        no("2: it has a pool, narrower", x -> x.pool(1, 5, 5));
        no("2: it has a pool, elsewhere", x -> x.pool(1, 7, 9));
    }

    private static void poolWithoutSuchARange() {
        for (int low : new int[] {Integer.MIN_VALUE, Integer.MIN_VALUE + 1, -1, 0}) {
            no("2: not 1 <= low, which is " + low, x -> x.pool(2, low, 9));
            no("2: not 1 <= low, " + low + " alone", x -> x.pool(2, low, low));
        }
        for (int high : new int[] {10, 11, Integer.MAX_VALUE - 1, Integer.MAX_VALUE}) {
            no("2: not high <= 9, which is " + high, x -> x.pool(2, 1, high));
            no("2: not high <= 9, " + high + " alone", x -> x.pool(2, high, high));
        }
        int[][] turned = {{2, 1}, {5, 4}, {9, 8}, {9, 1}, {1, 0}, {10, 9}, {1, Integer.MIN_VALUE}, {Integer.MAX_VALUE, 9}};
        for (int[] t : turned) {
            no("2: not low <= high, " + t[0] + " and " + t[1], x -> x.pool(2, t[0], t[1]));
        }
        no("2: both too far out", x -> x.pool(2, Integer.MIN_VALUE, Integer.MAX_VALUE));
        no("2: both too far out, turned", x -> x.pool(2, Integer.MAX_VALUE, Integer.MIN_VALUE));
    }

    private static void attachWithoutSuchASubnet() {
        for (int subnet : Nets.outside(0, 2)) {
            answers("3: no subnet " + subnet, RefusedTest::busy, x -> x.attach(subnet), -1);
        }
    }

    private static BootNet sixStations() {
        BootNet x = busy();
        for (int s = 3; s < 6; s++) {
            x.attach(s - 3);
        }
        return x;
    }

    private static void attachWhenThereAreSix() {
        for (int subnet = 0; subnet <= 2; subnet++) {
            int into = subnet;
            answers("3: there are 6, subnet " + into, RefusedTest::sixStations, x -> x.attach(into), -1);
        }
    }

    private static void reserveWithoutSuchAStation() {
        for (int station : Nets.outside(0, 2)) {
            no("4: no station " + station, x -> x.reserve(station, 7));
        }
        no("4: no station 6 when there are 6", RefusedTest::sixStations, x -> x.reserve(6, 7));
    }

    private static void reserveWithoutSuchAnN() {
        for (int n : Nets.outside(1, 9)) {
            no("4: n " + n + " of the first subnet", x -> x.reserve(0, n));
            no("4: n " + n + " of the second subnet", x -> x.reserve(1, n));
        }
        no("4: n 11 is no way to the second subnet", x -> x.reserve(0, 11));
        no("4: n -9 is no way to the first subnet", x -> x.reserve(1, -9));
    }

    private static void reserveWhatIsAnothers() {
        no("4: reserved for another", x -> x.reserve(2, 3));
        BootNet x = busy();
        Due.yes("4: reserved for itself", x.reserve(0, 3));
        Due.yes("4: the same n of another subnet", x.reserve(1, 3));
        Due.yes("4: it reserves another", x.reserve(0, 4));
        Due.yes("4: and the first one is nobody's", x.reserve(2, 3));
    }

    private static void strangerWithoutSuchAnAddress() {
        for (int address : new int[] {0, 10, 20, 30, 31, -9, Integer.MIN_VALUE, Integer.MIN_VALUE + 1, -1,
            Integer.MAX_VALUE - 1, Integer.MAX_VALUE}) {
            no("5: no address " + address + " to take", x -> x.stranger(address, true));
            no("5: no address " + address + " to leave", x -> x.stranger(address, false));
        }
    }

    private static void strangerWhenThatIsSoAlready() {
        no("5: it is taken already", x -> x.stranger(1, true));
        for (int address : Nets.ADDRESSES) {
            if (address != 1) {
                no("5: nobody has " + address, x -> x.stranger(address, false));
            }
        }
    }

    private static void putWithoutSuchAFile() {
        for (int file : Nets.outside(0, 3)) {
            no("6: no file " + file, x -> x.put(file, 1));
        }
    }

    private static void putWithoutSuchAByte() {
        for (int b : Nets.outside(0, 255)) {
            no("6: no byte " + b + " behind others", x -> x.put(0, b));
            no("6: no byte " + b + " as the first", x -> x.put(1, b));
        }
    }

    private static BootNet fullFile() {
        BootNet x = busy();
        Nets.putCounting(x, 0, 34);
        return x;
    }

    private static void putWhenItHasForty() {
        no("6: it has 40", RefusedTest::fullFile, x -> x.put(0, 0));
        no("6: it has 40, byte 255", RefusedTest::fullFile, x -> x.put(0, 255));
        Due.yes("6: another one has not", fullFile().put(1, 0));
    }

    private static void entryWithoutSuchAFile() {
        for (int file : Nets.outside(0, 3)) {
            no("7: no file " + file, x -> x.entry(file, 6, 0));
        }
    }

    private static void entryWithoutSuchALength() {
        for (int length : Nets.outside(0, 40)) {
            no("7: no length " + length, x -> x.entry(0, length, x.check(0)));
        }
    }

    private static BootNet fullList() {
        BootNet x = busy();
        x.entry(0, 6, x.check(0));
        x.entry(3, 40, Integer.MIN_VALUE);
        return x;
    }

    private static void entryWhenThereAreFour() {
        no("7: there are 4", RefusedTest::fullList, x -> x.entry(0, 6, x.check(0)));
        no("7: there are 4, the shortest", RefusedTest::fullList, x -> x.entry(1, 0, 0));
    }

    private static void checkWithoutSuchAFile() {
        for (int file : Nets.outside(0, 3)) {
            answers("8: no file " + file, RefusedTest::busy, x -> x.check(file), 0);
        }
    }

    private static void bootWithoutSuchAStation() {
        for (int station : Nets.outside(0, 2)) {
            no("9: no station " + station, x -> x.boot(station));
        }
        no("9: no station 6 when there are 6", RefusedTest::sixStations, x -> x.boot(6));
    }

    private static BootNet emptyRow() {
        BootNet x = busy();
        Nets.loseAll(x);
        return x;
    }

    private static void deliverWithoutSuchAMessage() {
        for (int k : Nets.outside(0, 2)) {
            none("10: no message " + k, x -> x.deliver(k));
        }
        for (int k : Nets.outside(0, 0)) {
            answers("10: no message at all, " + k, RefusedTest::emptyRow, x -> x.deliver(k), BootNet.NONE);
        }
        answers("10: no message at all", RefusedTest::emptyRow, x -> x.deliver(0), BootNet.NONE);
        answers("10: no message 32 of 32", RefusedTest::fullRow, x -> x.deliver(32), BootNet.NONE);
    }

    private static void alterWithoutSuchAMessage() {
        for (int k : Nets.outside(0, 2)) {
            no("11: no message " + k + " to lose", x -> x.alter(k, false));
            no("11: no message " + k + " to come twice", x -> x.alter(k, true));
        }
        no("11: no message at all to lose", RefusedTest::emptyRow, x -> x.alter(0, false));
        no("11: no message at all to come twice", RefusedTest::emptyRow, x -> x.alter(0, true));
        no("11: no message 32 of 32 to lose", RefusedTest::fullRow, x -> x.alter(32, false));
    }

    private static BootNet fullRow() {
        BootNet x = busy();
        for (int i = 3; i < 32; i++) {
            x.alter(i % 3, true);
        }
        return x;
    }

    private static void alterTwiceWhenThereAreThirtyTwo() {
        for (int k : new int[] {0, 15, 31}) {
            no("11: twice and 32 are there, message " + k, RefusedTest::fullRow, x -> x.alter(k, true));
        }
        Due.yes("11: 32 are no reason not to lose one", fullRow().alter(31, false));
        BootNet x = fullRow();
        x.alter(0, false);
        Due.yes("11: twice and 31 are there", x.alter(0, true));
        Due.no("11: twice and 32 are there again", x.alter(0, true));
    }

    private static void messageWithoutSuchAMessage() {
        for (int k : Nets.outside(0, 2)) {
            for (int what : new int[] {0, 6}) {
                none("14: no message " + k + ", what " + what, x -> x.message(k, what));
            }
        }
        answers("14: no message at all", RefusedTest::emptyRow, x -> x.message(0, 0), BootNet.NONE);
        answers("14: no message 32 of 32", RefusedTest::fullRow, x -> x.message(32, 0), BootNet.NONE);
    }

    private static void messageWithoutSuchAWhat() {
        for (int what : Nets.outside(0, 6)) {
            none("14: no what " + what, x -> x.message(0, what));
        }
    }

    private static void stationWithoutSuchAStation() {
        for (int station : Nets.outside(0, 2)) {
            for (int what : new int[] {0, 7}) {
                none("15: no station " + station + ", what " + what, x -> x.station(station, what));
            }
        }
        answers("15: no station 6 when there are 6", RefusedTest::sixStations, x -> x.station(6, 0), BootNet.NONE);
    }

    private static void stationWithoutSuchAWhat() {
        for (int what : Nets.outside(0, 7)) {
            none("15: no what " + what, x -> x.station(0, what));
        }
    }

    private static void imageWithoutSuchAByte() {
        for (int k : Nets.outside(0, 3)) {
            none("16: no byte " + k + " of 4", x -> x.image(0, k));
        }
        none("16: no byte of none", x -> x.image(2, 0));
    }

    private static void imageWithoutSuchAStation() {
        for (int station : Nets.outside(0, 2)) {
            none("16: no station " + station, x -> x.image(station, 0));
        }
    }

    private static void leaseWithoutSuchAnAddress() {
        for (int address : new int[] {0, 10, 20, 30, 31, -1, -9, Integer.MIN_VALUE, Integer.MIN_VALUE + 1,
            Integer.MAX_VALUE - 1, Integer.MAX_VALUE}) {
            for (int what = 0; what <= 3; what++) {
                int asked = what;
                none("17: no address " + address + ", what " + what, x -> x.lease(address, asked));
            }
        }
    }

    private static void leaseWithoutSuchAWhat() {
        for (int what : Nets.outside(0, 3)) {
            none("17: no what " + what + " of a lease", x -> x.lease(3, what));
            none("17: no what " + what + " of a bar", x -> x.lease(1, what));
            none("17: no what " + what + " of an offer", x -> x.lease(19, what));
        }
    }

    private static void leaseWhereNoneHolds() {
        none("17: no lease holds", x -> x.lease(19, 0));
        none("17: no lease holds, so no tick", x -> x.lease(19, 1));
        none("17: no offer holds", x -> x.lease(3, 2));
        none("17: no bar holds", x -> x.lease(3, 3));
    }

    private static void allArgumentsAtTheEndsOfInt() {
        int[] ends = {Integer.MIN_VALUE, Integer.MAX_VALUE};
        for (int a : ends) {
            for (int b : ends) {
                String both = " of " + a + " and " + b;
                no("2: pool" + both, x -> x.pool(a, b, b));
                no("4: reserve" + both, x -> x.reserve(a, b));
                no("6: put" + both, x -> x.put(a, b));
                no("7: entry" + both, x -> x.entry(a, b, a));
                none("14: message" + both, x -> x.message(a, b));
                none("15: station" + both, x -> x.station(a, b));
                none("16: image" + both, x -> x.image(a, b));
                none("17: lease" + both, x -> x.lease(a, b));
            }
        }
    }

    private static void askingChangesNothing() {
        answers("8: check of a file", RefusedTest::busy, x -> x.check(1), 0);
        answers("14: the last message's leg", RefusedTest::busy, x -> x.message(2, 6), 1);
        answers("15: a station's bytes", RefusedTest::busy, x -> x.station(0, 7), 4);
        answers("16: the last byte", RefusedTest::busy, x -> x.image(0, 3), 3);
        answers("17: a lease", RefusedTest::busy, x -> x.lease(3, 0), 0);
        answers("18: the journal", RefusedTest::busy, x -> x.journal(), 2);
    }
}
