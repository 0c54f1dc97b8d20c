import java.util.Arrays;

/**
 * Stations that boot over a network: each asks a server for an address, directly or through a relay,
 * looks whether somebody else has it, keeps it by renewing, and loads the files of a list block by
 * block and checks them. Every object that a call needs is made with the network and used again.
 */
public final class BootNet {
    public static final int NONE = -1;

    private static final int WAIT = 3;

    private final Ground ground;
    private final Wire wire;
    private final Layout layout;
    private final Library library;
    private final Server server;
    private final Station[] stations;

    public BootNet(int lease, int limit, int size) {
        ground = new Ground(lease, limit, size);
        wire = new Wire();
        layout = new Layout();
        library = new Library();
        server = new Server(ground, wire, layout, library);
        stations = new Station[Layout.MOST_STATIONS];
        for (int i = 0; i < stations.length; i++) {
            stations[i] = new Station(i, ground, wire, library);
        }
    }

    public boolean pool(int subnet, int low, int high) {
        return layout.setPool(subnet, low, high);
    }

    public int attach(int subnet) {
        return layout.addStation(subnet);
    }

    public boolean reserve(int station, int n) {
        return layout.reserveFor(station, n);
    }

    public boolean stranger(int address, boolean on) {
        return layout.setTaken(address, on);
    }

    public boolean put(int file, int b) {
        return library.addByte(file, b);
    }

    public boolean entry(int file, int length, int check) {
        return library.addEntry(file, length, check);
    }

    public int check(int file) {
        return library.checkOf(file);
    }

    public boolean boot(int station) {
        if (!layout.hasStation(station)) {
            return false;
        }
        stations[station].restart();
        return true;
    }

    public int deliver(int k) {
        if (!wire.has(k)) {
            return NONE;
        }
        Message m = wire.take(k);
        arrive(m);
        return m.kind;
    }

    public boolean alter(int k, boolean twice) {
        if (!wire.has(k)) {
            return false;
        }
        if (twice) {
            return wire.repeat(k);
        }
        wire.take(k);
        return true;
    }

    public int tick() {
        ground.now++;
        for (int i = 0; i < layout.stationCount; i++) {
            stations[i].passTime();
        }
        server.repeatDueBlocks();
        return wire.count;
    }

    public int crash() {
        return server.startAnew();
    }

    public int message(int k, int what) {
        return wire.has(k) ? wire.slots[k].tell(what) : NONE;
    }

    public int station(int station, int what) {
        return layout.hasStation(station) ? stations[station].tell(what) : NONE;
    }

    public int image(int station, int k) {
        return layout.hasStation(station) ? stations[station].loading.byteAt(k) : NONE;
    }

    public int lease(int address, int what) {
        return Layout.isAddress(address) ? server.book.tell(address, what) : NONE;
    }

    public int journal() {
        return server.records.count;
    }

    private void arrive(Message m) {
        if (m.goesToServer()) {
            if (m.leg == 0 && layout.isBehindRelay(m.station)) {
                wire.postCopy(m, 1);
            } else {
                server.receive(m);
            }
        } else if (m.kind == Message.PROBE) {
            answerProbe(m);
        } else if (m.leg == 1) {
            wire.postCopy(m, 0);
        } else {
            stations[m.station].receive(m);
        }
    }

    private void answerProbe(Message m) {
        if (layout.isTaken(m.item) || isHeldByAnother(m.item, m.station)) {
            wire.post(Message.HERE, m.station, 0, 0, m.item, 0);
        }
    }

    private boolean isHeldByAnother(int address, int prober) {
        for (int i = 0; i < layout.stationCount; i++) {
            if (i != prober && stations[i].holds() && stations[i].address == address) {
                return true;
            }
        }
        return false;
    }

    /** What all parts of one network share: the settings, the time and the latest number. */
    private static final class Ground {
        final int leaseTicks;
        final int limit;
        final int blockSize;
        int now;
        int latestNumber;

        Ground(int lease, int limit, int size) {
            this.leaseTicks = within(lease, 8, 60);
            this.limit = within(limit, 1, 5);
            this.blockSize = within(size, 4, Message.MOST_BYTES);
        }

        private static int within(int value, int least, int most) {
            return Math.max(least, Math.min(most, value));
        }

        int newNumber() {
            latestNumber++;
            return latestNumber;
        }
    }

    private static final class Message {
        static final int DISCOVER = 0;
        static final int OFFER = 1;
        static final int REQUEST = 2;
        static final int ACK = 3;
        static final int NAK = 4;
        static final int DECLINE = 5;
        static final int PROBE = 6;
        static final int HERE = 7;
        static final int READ = 8;
        static final int DATA = 9;
        static final int GOT = 10;
        static final int ERROR = 11;
        static final int MOST_BYTES = 12;

        int kind;
        int station;
        int number;
        /** The address or the file, whichever the kind speaks of. */
        int item;
        int block;
        int leg;
        int byteCount;
        final int[] bytes = new int[MOST_BYTES];

        void copyBytes(int[] row, int from, int n) {
            System.arraycopy(row, from, bytes, 0, n);
            byteCount = n;
        }

        boolean goesToServer() {
            return kind == DISCOVER || kind == REQUEST || kind == DECLINE || kind == READ || kind == GOT;
        }

        int tell(int what) {
            switch (what) {
                case 0: return kind;
                case 1: return station;
                case 2: return number;
                case 3: return item;
                case 4: return block;
                case 5: return byteCount;
                case 6: return leg;
                default: return NONE;
            }
        }
    }

    /** The messages under way, the oldest first. */
    private static final class Wire {
        static final int MOST = 32;

        final Message[] slots = new Message[MOST];
        int count;
        /** The message that left the row last: its slot must not be filled while it is being read. */
        private Message outside = new Message();
        /** Takes what is sent when the row is full: it never arrives. */
        private final Message lost = new Message();

        Wire() {
            for (int i = 0; i < MOST; i++) {
                slots[i] = new Message();
            }
        }

        boolean has(int k) {
            return k >= 0 && k < count;
        }

        Message post(int kind, int station, int leg, int number, int item, int block) {
            Message m = lost;
            if (count < MOST) {
                m = slots[count];
                count++;
            }
            m.kind = kind;
            m.station = station;
            m.leg = leg;
            m.number = number;
            m.item = item;
            m.block = block;
            m.byteCount = 0;
            return m;
        }

        /** The row must have message k. What is answered stays as it is until the next one is taken. */
        Message take(int k) {
            Message taken = slots[k];
            for (int i = k + 1; i < count; i++) {
                slots[i - 1] = slots[i];
            }
            count--;
            slots[count] = outside;
            outside = taken;
            return taken;
        }

        void postCopy(Message m, int leg) {
            Message copy = post(m.kind, m.station, leg, m.number, m.item, m.block);
            copy.copyBytes(m.bytes, 0, m.byteCount);
        }

        /** The row must have message k. */
        boolean repeat(int k) {
            if (count >= MOST) {
                return false;
            }
            postCopy(slots[k], slots[k].leg);
            return true;
        }
    }

    /** What the caller lays out: pools, stations in subnets, reserved addresses and strangers. */
    private static final class Layout {
        static final int SUBNETS = 3;
        static final int MOST_STATIONS = 6;
        static final int LAST_N = 9;
        static final int ADDRESS_END = 10 * SUBNETS;
        static final int NO_ADDRESS = 0;

        /** The ends of each pool as n; 0 where a subnet has none. */
        private final int[] poolLow = new int[SUBNETS];
        private final int[] poolHigh = new int[SUBNETS];
        private final int[] subnetOf = new int[MOST_STATIONS];
        private final int[] reservedFor = new int[ADDRESS_END];
        private final boolean[] taken = new boolean[ADDRESS_END];
        int stationCount;

        Layout() {
            Arrays.fill(reservedFor, NONE);
        }

        static boolean isAddress(int address) {
            return address > 0 && address < ADDRESS_END && address % 10 != 0;
        }

        static boolean isSubnet(int subnet) {
            return subnet >= 0 && subnet < SUBNETS;
        }

        boolean hasStation(int station) {
            return station >= 0 && station < stationCount;
        }

        boolean setPool(int subnet, int low, int high) {
            if (!isSubnet(subnet) || poolLow[subnet] != 0) {
                return false;
            }
            if (low < 1 || low > high || high > LAST_N) {
                return false;
            }
            poolLow[subnet] = low;
            poolHigh[subnet] = high;
            return true;
        }

        int addStation(int subnet) {
            if (!isSubnet(subnet) || stationCount >= MOST_STATIONS) {
                return NONE;
            }
            subnetOf[stationCount] = subnet;
            stationCount++;
            return stationCount - 1;
        }

        boolean reserveFor(int station, int n) {
            if (!hasStation(station) || n < 1 || n > LAST_N) {
                return false;
            }
            int address = 10 * subnetOf[station] + n;
            if (isReservedForAnother(address, station)) {
                return false;
            }
            int older = reservedAddress(station);
            if (older != NO_ADDRESS) {
                reservedFor[older] = NONE;
            }
            reservedFor[address] = station;
            return true;
        }

        int reservedAddress(int station) {
            for (int address = 1; address < ADDRESS_END; address++) {
                if (reservedFor[address] == station) {
                    return address;
                }
            }
            return NO_ADDRESS;
        }

        boolean isReservedForAnother(int address, int station) {
            return reservedFor[address] != NONE && reservedFor[address] != station;
        }

        boolean setTaken(int address, boolean on) {
            if (!isAddress(address) || taken[address] == on) {
                return false;
            }
            taken[address] = on;
            return true;
        }

        boolean isTaken(int address) {
            return isAddress(address) && taken[address];
        }

        boolean isBehindRelay(int station) {
            return subnetOf[station] != 0;
        }

        boolean hasPool(int station) {
            return poolLow[subnetOf[station]] != 0;
        }

        int firstOfPool(int station) {
            return 10 * subnetOf[station] + poolLow[subnetOf[station]];
        }

        int lastOfPool(int station) {
            return 10 * subnetOf[station] + poolHigh[subnetOf[station]];
        }
    }

    /** The files, and the list of those that every station loads. */
    private static final class Library {
        static final int FILES = 4;
        static final int MOST_BYTES = 40;
        static final int MOST_ENTRIES = 4;

        private static final int CHECK_MASK = -306674912;

        private final int[][] bytes = new int[FILES][MOST_BYTES];
        private final int[] byteCounts = new int[FILES];
        final int[] entryFiles = new int[MOST_ENTRIES];
        final int[] entryLengths = new int[MOST_ENTRIES];
        final int[] entryChecks = new int[MOST_ENTRIES];
        int entryCount;

        static boolean isFile(int file) {
            return file >= 0 && file < FILES;
        }

        /** The check of the bytes from one place to before another, both within the row. */
        static int checkOfRow(int[] row, int from, int end) {
            int r = -1;
            for (int i = from; i < end; i++) {
                r ^= row[i];
                for (int bit = 0; bit < 8; bit++) {
                    r = (r >>> 1) ^ ((r & 1) == 1 ? CHECK_MASK : 0);
                }
            }
            return ~r;
        }

        boolean addByte(int file, int b) {
            if (!isFile(file) || b < 0 || b > 255 || byteCounts[file] >= MOST_BYTES) {
                return false;
            }
            bytes[file][byteCounts[file]] = b;
            byteCounts[file]++;
            return true;
        }

        int checkOf(int file) {
            return isFile(file) ? checkOfRow(bytes[file], 0, byteCounts[file]) : 0;
        }

        /** A byte once put stays, so a file is there exactly if it is not empty. */
        boolean has(int file) {
            return isFile(file) && byteCounts[file] > 0;
        }

        void copyBlock(int file, int block, int size, Message to) {
            int from = Math.min((block - 1) * size, byteCounts[file]);
            to.copyBytes(bytes[file], from, Math.min(size, byteCounts[file] - from));
        }

        boolean addEntry(int file, int length, int check) {
            if (!isFile(file) || length < 0 || length > MOST_BYTES || entryCount >= MOST_ENTRIES) {
                return false;
            }
            entryFiles[entryCount] = file;
            entryLengths[entryCount] = length;
            entryChecks[entryCount] = check;
            entryCount++;
            return true;
        }

        int bytesBefore(int e) {
            int sum = 0;
            for (int i = 0; i < e; i++) {
                sum += entryLengths[i];
            }
            return sum;
        }
    }

    /** Leases, offers and bars, each of which holds as long as NOW is below its tick. */
    private static final class AddressBook {
        private final Ground ground;
        private final Layout layout;
        private final int[] leasedTo = new int[Layout.ADDRESS_END];
        private final int[] leasedUntil = new int[Layout.ADDRESS_END];
        private final int[] offeredTo = new int[Layout.ADDRESS_END];
        private final int[] offeredUntil = new int[Layout.ADDRESS_END];
        private final int[] barredUntil = new int[Layout.ADDRESS_END];

        AddressBook(Ground ground, Layout layout) {
            this.ground = ground;
            this.layout = layout;
        }

        void forgetAll() {
            Arrays.fill(leasedUntil, 0);
            Arrays.fill(offeredUntil, 0);
            Arrays.fill(barredUntil, 0);
        }

        int lessee(int address) {
            return leasedUntil[address] > ground.now ? leasedTo[address] : NONE;
        }

        int offeree(int address) {
            return offeredUntil[address] > ground.now ? offeredTo[address] : NONE;
        }

        boolean isBarred(int address) {
            return barredUntil[address] > ground.now;
        }

        boolean isFree(int address, int station) {
            int lessee = lessee(address);
            int offeree = offeree(address);
            return !isBarred(address)
                && (lessee == NONE || lessee == station)
                && (offeree == NONE || offeree == station)
                && !layout.isReservedForAnother(address, station);
        }

        void leaseTo(int address, int station, int until) {
            leasedTo[address] = station;
            leasedUntil[address] = until;
        }

        void offerOnly(int address, int station, int until) {
            for (int i = 0; i < offeredTo.length; i++) {
                if (offeredTo[i] == station) {
                    offeredUntil[i] = 0;
                }
            }
            offeredTo[address] = station;
            offeredUntil[address] = until;
        }

        void endOffer(int address) {
            offeredUntil[address] = 0;
        }

        void bar(int address, int until) {
            barredUntil[address] = until;
        }

        int tell(int address, int what) {
            switch (what) {
                case 0: return lessee(address);
                case 1: return lessee(address) == NONE ? NONE : leasedUntil[address];
                case 2: return offeree(address);
                case 3: return isBarred(address) ? barredUntil[address] : NONE;
                default: return NONE;
            }
        }
    }

    /** The records that outlive a crash. */
    private static final class Records {
        static final int MOST = 16;

        final int[] addresses = new int[MOST];
        final int[] holders = new int[MOST];
        final int[] ticks = new int[MOST];
        int count;

        boolean add(int address, int station, int until, int now) {
            if (count >= MOST) {
                dropStale(now);
            }
            if (count >= MOST) {
                return false;
            }
            addresses[count] = address;
            holders[count] = station;
            ticks[count] = until;
            count++;
            return true;
        }

        private void dropStale(int now) {
            int kept = 0;
            for (int i = 0; i < count; i++) {
                if (ticks[i] > now && isLatestOfAddress(i)) {
                    addresses[kept] = addresses[i];
                    holders[kept] = holders[i];
                    ticks[kept] = ticks[i];
                    kept++;
                }
            }
            count = kept;
        }

        private boolean isLatestOfAddress(int i) {
            for (int later = i + 1; later < count; later++) {
                if (addresses[later] == addresses[i]) {
                    return false;
                }
            }
            return true;
        }
    }

    /** The sending of one file to one station. */
    private static final class Transfer {
        boolean open;
        int file;
        int block;
        int tries;
        int due;
        /** How many bytes the block had when it was sent last. */
        int sentBytes;
    }

    private static final class Server {
        private final Ground ground;
        private final Wire wire;
        private final Layout layout;
        private final Library library;
        private final Transfer[] transfers = new Transfer[Layout.MOST_STATIONS];
        final AddressBook book;
        final Records records = new Records();

        Server(Ground ground, Wire wire, Layout layout, Library library) {
            this.ground = ground;
            this.wire = wire;
            this.layout = layout;
            this.library = library;
            this.book = new AddressBook(ground, layout);
            for (int i = 0; i < transfers.length; i++) {
                transfers[i] = new Transfer();
            }
        }

        void receive(Message m) {
            switch (m.kind) {
                case Message.DISCOVER: onDiscover(m); break;
                case Message.REQUEST: onRequest(m); break;
                case Message.DECLINE: onDecline(m); break;
                case Message.READ: onRead(m); break;
                case Message.GOT: onGot(m); break;
                default: break;
            }
        }

        int startAnew() {
            book.forgetAll();
            for (int i = 0; i < transfers.length; i++) {
                transfers[i].open = false;
            }
            for (int i = 0; i < records.count; i++) {
                book.leaseTo(records.addresses[i], records.holders[i], records.ticks[i]);
            }
            return records.count;
        }

        void repeatDueBlocks() {
            for (int i = 0; i < layout.stationCount; i++) {
                Transfer t = transfers[i];
                if (t.open && ground.now >= t.due) {
                    if (t.tries >= ground.limit) {
                        t.open = false;
                    } else {
                        t.tries++;
                        sendBlock(i, t);
                    }
                }
            }
        }

        private void onDiscover(Message m) {
            int address = leasedChoice(m.station);
            if (address == Layout.NO_ADDRESS) {
                address = reservedChoice(m.station);
            }
            if (address == Layout.NO_ADDRESS) {
                address = poolChoice(m.station);
            }
            if (address != Layout.NO_ADDRESS) {
                book.offerOnly(address, m.station, ground.now + 2 * WAIT);
                send(Message.OFFER, m.station, m.number, address, 0);
            }
        }

        private int leasedChoice(int station) {
            for (int address = 1; address < Layout.ADDRESS_END; address++) {
                if (book.lessee(address) == station && book.isFree(address, station)) {
                    return address;
                }
            }
            return Layout.NO_ADDRESS;
        }

        private int reservedChoice(int station) {
            int address = layout.reservedAddress(station);
            boolean free = address != Layout.NO_ADDRESS && book.isFree(address, station);
            return free ? address : Layout.NO_ADDRESS;
        }

        private int poolChoice(int station) {
            if (!layout.hasPool(station)) {
                return Layout.NO_ADDRESS;
            }
            int last = layout.lastOfPool(station);
            for (int address = layout.firstOfPool(station); address <= last; address++) {
                if (book.isFree(address, station)) {
                    return address;
                }
            }
            return Layout.NO_ADDRESS;
        }

        private void onRequest(Message m) {
            if (mayHave(m.item, m.station) && recordLease(m.item, m.station)) {
                book.endOffer(m.item);
                send(Message.ACK, m.station, m.number, m.item, 0);
            } else {
                send(Message.NAK, m.station, m.number, m.item, 0);
            }
        }

        private boolean mayHave(int address, int station) {
            return Layout.isAddress(address) && !book.isBarred(address)
                && (book.lessee(address) == station || book.offeree(address) == station);
        }

        private boolean recordLease(int address, int station) {
            int until = ground.now + ground.leaseTicks;
            if (!records.add(address, station, until, ground.now)) {
                return false;
            }
            book.leaseTo(address, station, until);
            return true;
        }

        private void onDecline(Message m) {
            if (Layout.isAddress(m.item) && book.lessee(m.item) == m.station) {
                book.bar(m.item, ground.now + ground.leaseTicks);
            }
        }

        private void onRead(Message m) {
            if (!library.has(m.item)) {
                send(Message.ERROR, m.station, 0, m.item, 0);
                return;
            }
            Transfer t = transfers[m.station];
            t.open = true;
            t.file = m.item;
            t.block = 1;
            t.tries = 1;
            sendBlock(m.station, t);
        }

        private void onGot(Message m) {
            Transfer t = transfers[m.station];
            if (!t.open || t.file != m.item || t.block != m.block) {
                return;
            }
            if (t.sentBytes < ground.blockSize) {
                t.open = false;
            } else {
                t.block++;
                t.tries = 1;
                sendBlock(m.station, t);
            }
        }

        private void sendBlock(int station, Transfer t) {
            Message data = send(Message.DATA, station, 0, t.file, t.block);
            library.copyBlock(t.file, t.block, ground.blockSize, data);
            t.sentBytes = data.byteCount;
            t.due = ground.now + WAIT;
        }

        private Message send(int kind, int station, int number, int item, int block) {
            int leg = layout.isBehindRelay(station) ? 1 : 0;
            return wire.post(kind, station, leg, number, item, block);
        }
    }

    /** How far a station is with the files of the list. */
    private static final class Loading {
        static final int NOTHING = 0;
        static final int RUNNING = 1;
        static final int DONE = 2;
        static final int NO_FILE = 3;
        static final int WRONG_LENGTH = 4;
        static final int WRONG_CHECK = 5;
        static final int NO_ANSWER = 6;
        static final int WITHOUT_ADDRESS = 7;
        static final int CONFLICTS = 8;

        /** The last entry may be one block too long before that is seen. */
        private static final int MOST_BYTES = Library.MOST_ENTRIES * Library.MOST_BYTES + Message.MOST_BYTES;

        private final int owner;
        private final Ground ground;
        private final Wire wire;
        private final Library library;
        private final int[] bytes = new int[MOST_BYTES];
        private int byteCount;
        private int entryStart;
        private int block;
        private int tries;
        private int due;
        int entryAt;
        int result;

        Loading(int owner, Ground ground, Wire wire, Library library) {
            this.owner = owner;
            this.ground = ground;
            this.wire = wire;
            this.library = library;
        }

        void forgetAll() {
            result = NOTHING;
            entryAt = 0;
            entryStart = 0;
            byteCount = 0;
        }

        void begin(int e) {
            if (e >= library.entryCount) {
                result = DONE;
                return;
            }
            result = RUNNING;
            entryAt = e;
            entryStart = library.bytesBefore(e);
            byteCount = entryStart;
            block = 1;
            sendRead();
            waitAnew();
        }

        void interrupt() {
            if (result == RUNNING) {
                result = NOTHING;
            }
        }

        void onData(Message m) {
            if (result != RUNNING || m.item != library.entryFiles[entryAt] || m.block != block) {
                return;
            }
            addBytes(m);
            wire.post(Message.GOT, owner, 0, 0, m.item, m.block);
            waitAnew();
            if (m.byteCount == ground.blockSize) {
                block++;
                result = bytesOfEntry() > Library.MOST_BYTES ? WRONG_LENGTH : RUNNING;
                return;
            }
            result = resultOfEntry();
            if (result == RUNNING) {
                begin(entryAt + 1);
            }
        }

        void onError(Message m) {
            if (result == RUNNING && m.item == library.entryFiles[entryAt]) {
                result = NO_FILE;
            }
        }

        boolean isLate() {
            return result == RUNNING && ground.now >= due;
        }

        void tryAgain() {
            if (tries >= ground.limit) {
                result = NO_ANSWER;
                return;
            }
            tries++;
            due = ground.now + WAIT;
            if (block == 1) {
                sendRead();
            }
        }

        int bytesOfEntry() {
            return byteCount - entryStart;
        }

        int byteAt(int k) {
            return k >= 0 && k < byteCount ? bytes[k] : NONE;
        }

        private int resultOfEntry() {
            if (bytesOfEntry() != library.entryLengths[entryAt]) {
                return WRONG_LENGTH;
            }
            int check = Library.checkOfRow(bytes, entryStart, byteCount);
            return check == library.entryChecks[entryAt] ? RUNNING : WRONG_CHECK;
        }

        private void addBytes(Message m) {
            for (int i = 0; i < m.byteCount && byteCount < MOST_BYTES; i++) {
                bytes[byteCount] = m.bytes[i];
                byteCount++;
            }
        }

        private void sendRead() {
            wire.post(Message.READ, owner, 0, 0, library.entryFiles[entryAt], 0);
        }

        private void waitAnew() {
            tries = 1;
            due = ground.now + WAIT;
        }
    }

    private static final class Station {
        static final int OFF = 0;
        static final int SELECTING = 1;
        static final int REQUESTING = 2;
        static final int PROBING = 3;
        static final int BOUND = 4;
        static final int RENEWING = 5;
        static final int REBINDING = 6;
        static final int FAILED = 7;

        private final int self;
        private final Ground ground;
        private final Wire wire;
        final Loading loading;
        private int state = OFF;
        int address = Layout.NO_ADDRESS;
        private int number;
        private int sent;
        private int end;
        private int due;
        private int tries;
        private int conflicts;

        Station(int self, Ground ground, Wire wire, Library library) {
            this.self = self;
            this.ground = ground;
            this.wire = wire;
            this.loading = new Loading(self, ground, wire, library);
        }

        boolean holds() {
            return state == BOUND || state == RENEWING || state == REBINDING;
        }

        void restart() {
            end = 0;
            conflicts = 0;
            loading.forgetAll();
            select();
        }

        void receive(Message m) {
            switch (m.kind) {
                case Message.OFFER: onOffer(m); break;
                case Message.ACK: onAck(m); break;
                case Message.NAK: onNak(m); break;
                case Message.HERE: onHere(m); break;
                case Message.DATA:
                    if (holds()) {
                        loading.onData(m);
                    }
                    break;
                case Message.ERROR:
                    if (holds()) {
                        loading.onError(m);
                    }
                    break;
                default: break;
            }
        }

        /** What a tick does here: the first case that holds, and that one alone. */
        void passTime() {
            boolean late = ground.now >= due;
            if (holds() && ground.now >= end) {
                select();
            } else if ((state == SELECTING || state == REQUESTING) && late) {
                tryAgain();
            } else if (state == PROBING && late) {
                endProbe();
            } else if (state == BOUND && 2 * (ground.now - sent) >= ground.leaseTicks) {
                state = RENEWING;
                ask();
            } else if (state == RENEWING && isTimeToRebind()) {
                state = REBINDING;
                ask();
            } else if ((state == RENEWING || state == REBINDING) && late) {
                ask();
            } else if (holds() && loading.isLate()) {
                loading.tryAgain();
            }
        }

        int tell(int what) {
            switch (what) {
                case 0: return state;
                case 1: return address;
                case 2: return number;
                case 3: return end;
                case 4: return conflicts;
                case 5: return loading.result;
                case 6: return loading.entryAt;
                case 7: return loading.bytesOfEntry();
                default: return NONE;
            }
        }

        private void select() {
            state = SELECTING;
            address = Layout.NO_ADDRESS;
            number = ground.newNumber();
            tries = 1;
            sendDiscover();
            loading.interrupt();
        }

        private void sendDiscover() {
            wire.post(Message.DISCOVER, self, 0, number, 0, 0);
            due = ground.now + WAIT;
        }

        private void ask() {
            number = ground.newNumber();
            wire.post(Message.REQUEST, self, 0, number, address, 0);
            sent = ground.now;
            due = ground.now + WAIT;
        }

        private void fail(int result) {
            state = FAILED;
            address = Layout.NO_ADDRESS;
            loading.result = result;
        }

        private void tryAgain() {
            if (tries >= ground.limit) {
                fail(Loading.WITHOUT_ADDRESS);
                return;
            }
            tries++;
            if (state == SELECTING) {
                sendDiscover();
            } else {
                ask();
            }
        }

        private void endProbe() {
            if (ground.now >= end) {
                select();
                return;
            }
            state = BOUND;
            if (loading.result == Loading.NOTHING) {
                loading.begin(0);
            }
        }

        private boolean isTimeToRebind() {
            return 8 * (ground.now - (end - ground.leaseTicks)) >= 7 * ground.leaseTicks;
        }

        private void onOffer(Message m) {
            if (state == SELECTING && m.number == number) {
                address = m.item;
                state = REQUESTING;
                tries = 1;
                ask();
            }
        }

        private void onAck(Message m) {
            if (m.number != number || m.item != address) {
                return;
            }
            if (state == REQUESTING) {
                end = sent + ground.leaseTicks;
                state = PROBING;
                wire.post(Message.PROBE, self, 0, 0, address, 0);
                due = ground.now + WAIT;
            } else if (state == RENEWING || state == REBINDING) {
                end = sent + ground.leaseTicks;
                state = BOUND;
            }
        }

        private void onNak(Message m) {
            boolean waits = state == REQUESTING || state == RENEWING || state == REBINDING;
            if (waits && m.number == number) {
                select();
            }
        }

        private void onHere(Message m) {
            if (state != PROBING || m.item != address) {
                return;
            }
            wire.post(Message.DECLINE, self, 0, 0, address, 0);
            conflicts++;
            if (conflicts >= ground.limit) {
                fail(Loading.CONFLICTS);
            } else {
                select();
            }
        }
    }
}
