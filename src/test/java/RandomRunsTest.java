import java.util.Random;

/**
 * Runs of 512 random calls, on the class and on the plain model at once: every answer and all
 * that can be asked afterwards must be the same. The seeds are fixed, so a run that fails fails again.
 * What is asked in between takes an object beyond the 512 calls that the document speaks of; the class
 * knows no such bound, so the answers are compared all the same.
 */
public final class RandomRunsTest {
    private static final int RUNS = 1200;
    private static final int CALLS = 512;
    private static final int[] WILD = {
        Integer.MIN_VALUE, -1, 0, 1, 2, 3, 4, 5, 6, 7, 8, 9, 10, 11, 20, 29, 30, 32, 40, 41, 255, 256, 1000,
        Integer.MAX_VALUE,
    };

    private final Random random;
    private final String run;
    private final BootNet net;
    private final PlainModel model;
    /** How often, out of 100 times, a message arrives and is not lost or doubled. */
    private final int keep;
    /** How often, out of 100 calls, time goes on. */
    private final int haste;
    /** Whether strangers take most addresses and leases are long, so that the journal fills. */
    private final boolean crowded;

    private RandomRunsTest(int seed) {
        random = new Random(seed);
        run = "run " + seed;
        crowded = seed % 4 == 2;
        boolean calm = seed % 4 == 1 || crowded;
        boolean wild = seed % 20 == 0;
        int lease = wild ? wild() : crowded ? 60 : 8 + random.nextInt(seed % 8 < 4 ? 53 : 10);
        int limit = wild ? wild() : 1 + random.nextInt(5);
        int size = wild ? wild() : 4 + random.nextInt(9);
        net = new BootNet(lease, limit, size);
        model = new PlainModel(lease, limit, size);
        keep = calm ? 96 + random.nextInt(5) : 60 + random.nextInt(41);
        haste = crowded ? 1 : calm ? 10 + random.nextInt(10) : 5 + random.nextInt(40);
    }

    public static void main(String[] args) {
        for (int seed = 0; seed < RUNS; seed++) {
            new RandomRunsTest(seed).play();
        }
        Due.end();
    }

    private void play() {
        int done = layOut();
        for (int i = done; i < CALLS; i++) {
            call();
            compareAll();
        }
    }

    private int wild() {
        return WILD[random.nextInt(WILD.length)];
    }

    private int some(int end) {
        return random.nextInt(50) == 0 ? wild() : random.nextInt(end);
    }

    private void same(String call, long got, long want) {
        Due.is(run + ": " + call, got, want);
    }

    private void same(String call, boolean got, boolean want) {
        Due.is(run + ": " + call, got ? 1 : 0, want ? 1 : 0);
    }

    /** A network in which something can happen: pools, stations, strangers, files and a list. */
    private int layOut() {
        int calls = 0;
        for (int subnet = 0; subnet < 3; subnet++) {
            if (crowded || random.nextInt(4) != 0) {
                int low = crowded ? 1 : 1 + random.nextInt(9);
                int high = crowded || random.nextBoolean() ? 9 : low + random.nextInt(10 - low);
                same("pool", net.pool(subnet, low, high), model.pool(subnet, low, high));
                calls++;
            }
        }
        for (int i = crowded ? 6 : 1 + random.nextInt(6); i > 0; i--) {
            int subnet = crowded && i > 3 ? 0 : random.nextInt(3);
            same("attach", net.attach(subnet), model.attach(subnet));
            calls++;
        }
        for (int a = 1; crowded && a < 30; a++) {
            same("stranger " + a, net.stranger(a, true), model.stranger(a, true));
            calls++;
        }
        return calls + (crowded ? 0 : layOutFiles());
    }

    private int layOutFiles() {
        int calls = 0;
        for (int file = 0; file < 4; file++) {
            int most = random.nextInt(3) == 0 ? 41 : 14;
            for (int n = random.nextInt(6) == 0 ? 40 : random.nextInt(most); n > 0; n--) {
                putByte(file);
                calls++;
            }
        }
        for (int n = random.nextInt(5); n > 0; n--) {
            addEntry(random.nextInt(4));
            calls++;
        }
        return calls;
    }

    private void putByte(int file) {
        int b = random.nextInt(30) == 0 ? wild() : random.nextInt(256);
        same("put " + file + " " + b, net.put(file, b), model.put(file, b));
    }

    /** Mostly an entry that fits the file as it is now. */
    private void addEntry(int file) {
        int length = random.nextInt(15) == 0 ? random.nextInt(41) : model.fileSize(file);
        int check = random.nextInt(15) == 0 ? random.nextInt() : model.check(file);
        same("entry " + file + " " + length, net.entry(file, length, check), model.entry(file, length, check));
    }

    private void call() {
        int dice = random.nextInt(100);
        if (dice < haste) {
            same("tick", net.tick(), model.tick());
        } else if (dice < 90) {
            move();
        } else if (dice < 94) {
            int s = some(6);
            same("boot " + s, net.boot(s), model.boot(s));
        } else {
            setUp();
        }
    }

    private void move() {
        int count = model.underWay();
        int k = count == 0 || random.nextInt(40) == 0 ? wild() : random.nextInt(3) == 0 ? random.nextInt(count) : 0;
        if (random.nextInt(100) < keep) {
            same("deliver " + k, net.deliver(k), model.deliver(k));
        } else {
            boolean twice = random.nextBoolean();
            same("alter " + k + " " + twice, net.alter(k, twice), model.alter(k, twice));
        }
    }

    private void setUp() {
        switch (random.nextInt(9)) {
            case 0, 1 -> {
                int a = some(30);
                boolean on = random.nextInt(3) != 0;
                same("stranger " + a + " " + on, net.stranger(a, on), model.stranger(a, on));
            }
            case 2 -> {
                int s = some(6);
                int n = some(10);
                same("reserve " + s + " " + n, net.reserve(s, n), model.reserve(s, n));
            }
            case 3 -> same("crash", net.crash(), model.crash());
            case 4 -> putByte(some(4));
            case 5 -> {
                int f = some(4);
                int length = some(41);
                int check = model.check(f);
                same("entry " + f + " " + length, net.entry(f, length, check), model.entry(f, length, check));
            }
            case 6 -> {
                int s = some(3);
                same("attach " + s, net.attach(s), model.attach(s));
            }
            case 7 -> {
                int s = some(3);
                int low = some(10);
                int high = some(10);
                same("pool " + s + " " + low + " " + high, net.pool(s, low, high), model.pool(s, low, high));
            }
            default -> {
                int f = some(4);
                same("check " + f, net.check(f), model.check(f));
            }
        }
    }

    private void compareAll() {
        for (int k = -1; k <= model.underWay(); k++) {
            for (int what = -1; what <= 7; what++) {
                same("message " + k + " " + what, net.message(k, what), model.message(k, what));
            }
        }
        for (int s = -1; s <= 6; s++) {
            for (int what = -1; what <= 8; what++) {
                same("station " + s + " " + what, net.station(s, what), model.station(s, what));
            }
        }
        for (int a = -1; a <= 31; a++) {
            for (int what = -1; what <= 4; what++) {
                same("lease " + a + " " + what, net.lease(a, what), model.lease(a, what));
            }
        }
        int s = random.nextInt(6);
        for (int k = -1; k <= 161; k += 1 + random.nextInt(8)) {
            same("image " + s + " " + k, net.image(s, k), model.image(s, k));
        }
        same("journal", net.journal(), model.journal());
    }
}
