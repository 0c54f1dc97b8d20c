import java.util.ArrayList;
import java.util.HashMap;
import java.util.List;
import java.util.Map;
import java.util.TreeMap;
import java.util.TreeSet;

/**
 * The document said again in the plainest Java, with maps and lists, to compare the class with.
 * It copies and allocates freely; it shares no code with the class.
 */
final class PlainModel {
    private static final int WAIT = 3;

    private record Msg(int kind, int station, int number, int item, int block, List<Integer> bytes, int leg) {
    }

    private record Until(int station, int tick) {
    }

    private record Rec(int address, int station, int tick) {
    }

    private record Entry(int file, int length, int check) {
    }

    private static final class Sending {
        int file;
        int block;
        int tries;
        int due;
        int lastSize;
    }

    private static final class St {
        int subnet;
        int state;
        int address;
        int number;
        int sent;
        int end;
        int due;
        int tries;
        int conflicts;
        int result;
        int entry;
        int block;
        int loadTries;
        int loadDue;
        /** The bytes of each entry up to the one at which it is. */
        List<List<Integer>> loaded = new ArrayList<>(List.of(new ArrayList<>()));

        boolean holds() {
            return state >= 4 && state <= 6;
        }
    }

    private final int lease;
    private final int limit;
    private final int size;
    private int now;
    private int latest;
    private final Map<Integer, int[]> pools = new HashMap<>();
    private final List<St> stations = new ArrayList<>();
    private final Map<Integer, Integer> reserved = new TreeMap<>();
    private final TreeSet<Integer> strangers = new TreeSet<>();
    private final List<List<Integer>> files = new ArrayList<>();
    private final List<Entry> list = new ArrayList<>();
    private final List<Msg> row = new ArrayList<>();
    private final Map<Integer, Until> leases = new TreeMap<>();
    private final Map<Integer, Until> offers = new TreeMap<>();
    private final Map<Integer, Integer> bars = new TreeMap<>();
    private final Map<Integer, Sending> sendings = new TreeMap<>();
    private List<Rec> journal = new ArrayList<>();

    PlainModel(int lease, int limit, int size) {
        this.lease = lease < 8 ? 8 : lease > 60 ? 60 : lease;
        this.limit = limit < 1 ? 1 : limit > 5 ? 5 : limit;
        this.size = size < 4 ? 4 : size > 12 ? 12 : size;
        for (int i = 0; i < 4; i++) {
            files.add(new ArrayList<>());
        }
    }

    boolean pool(int subnet, int low, int high) {
        if (subnet < 0 || subnet > 2 || pools.containsKey(subnet)) {
            return false;
        }
        if (!(1 <= low && low <= high && high <= 9)) {
            return false;
        }
        pools.put(subnet, new int[] {low, high});
        return true;
    }

    int attach(int subnet) {
        if (subnet < 0 || subnet > 2 || stations.size() == 6) {
            return -1;
        }
        St s = new St();
        s.subnet = subnet;
        stations.add(s);
        return stations.size() - 1;
    }

    boolean reserve(int station, int n) {
        if (station < 0 || station >= stations.size() || n < 1 || n > 9) {
            return false;
        }
        int address = 10 * stations.get(station).subnet + n;
        if (reserved.containsKey(address) && reserved.get(address) != station) {
            return false;
        }
        reserved.values().removeIf(s -> s == station);
        reserved.put(address, station);
        return true;
    }

    private static boolean address(int a) {
        return a >= 1 && a <= 9 || a >= 11 && a <= 19 || a >= 21 && a <= 29;
    }

    boolean stranger(int a, boolean on) {
        return address(a) && (on ? strangers.add(a) : strangers.remove(a));
    }

    boolean put(int file, int b) {
        if (file < 0 || file > 3 || b < 0 || b > 255 || files.get(file).size() == 40) {
            return false;
        }
        return files.get(file).add(b);
    }

    boolean entry(int file, int length, int check) {
        if (file < 0 || file > 3 || length < 0 || length > 40 || list.size() == 4) {
            return false;
        }
        return list.add(new Entry(file, length, check));
    }

    /** The document's check is the usual one of the zip library. */
    private static int check(List<Integer> bytes) {
        java.util.zip.CRC32 c = new java.util.zip.CRC32();
        for (int b : bytes) {
            c.update(b);
        }
        return (int) c.getValue();
    }

    int check(int file) {
        return file < 0 || file > 3 ? 0 : check(files.get(file));
    }

    boolean boot(int station) {
        if (station < 0 || station >= stations.size()) {
            return false;
        }
        St s = stations.get(station);
        s.end = 0;
        s.entry = 0;
        s.loaded = new ArrayList<>(List.of(new ArrayList<>()));
        s.conflicts = 0;
        s.result = 0;
        select(station);
        return true;
    }

    private void send(Msg m) {
        if (row.size() < 32) {
            row.add(m);
        }
    }

    private void fromStation(int kind, int station, int number, int item, int block) {
        send(new Msg(kind, station, number, item, block, List.of(), 0));
    }

    private void fromServer(int kind, int station, int number, int item, int block, List<Integer> bytes) {
        send(new Msg(kind, station, number, item, block, bytes, stations.get(station).subnet == 0 ? 0 : 1));
    }

    private void select(int i) {
        St s = stations.get(i);
        s.state = 1;
        s.address = 0;
        s.number = ++latest;
        fromStation(0, i, s.number, 0, 0);
        s.tries = 1;
        s.due = now + WAIT;
        if (s.result == 1) {
            s.result = 0;
        }
    }

    private void ask(int i) {
        St s = stations.get(i);
        s.number = ++latest;
        fromStation(2, i, s.number, s.address, 0);
        s.sent = now;
        s.due = now + WAIT;
    }

    private void fail(int i, int result) {
        St s = stations.get(i);
        s.state = 7;
        s.address = 0;
        s.result = result;
    }

    private void load(int i, int e) {
        St s = stations.get(i);
        if (e >= list.size()) {
            s.result = 2;
            return;
        }
        s.result = 1;
        s.entry = e;
        s.block = 1;
        s.loaded = new ArrayList<>(s.loaded.subList(0, e));
        s.loaded.add(new ArrayList<>());
        fromStation(8, i, 0, list.get(e).file(), 0);
        s.loadTries = 1;
        s.loadDue = now + WAIT;
    }

    int deliver(int k) {
        if (k < 0 || k >= row.size()) {
            return -1;
        }
        Msg m = row.remove(k);
        boolean outer = stations.get(m.station()).subnet != 0;
        switch (m.kind()) {
            case 0, 2, 5, 8, 10 -> {
                if (outer && m.leg() == 0) {
                    send(new Msg(m.kind(), m.station(), m.number(), m.item(), m.block(), m.bytes(), 1));
                } else {
                    atServer(m);
                }
            }
            case 1, 3, 4, 9, 11 -> {
                if (m.leg() == 1) {
                    send(new Msg(m.kind(), m.station(), m.number(), m.item(), m.block(), m.bytes(), 0));
                } else {
                    atStation(m);
                }
            }
            case 6 -> {
                boolean here = strangers.contains(m.item());
                for (int i = 0; i < stations.size(); i++) {
                    here |= i != m.station() && stations.get(i).holds() && stations.get(i).address == m.item();
                }
                if (here) {
                    fromStation(7, m.station(), 0, m.item(), 0);
                }
            }
            default -> atStation(m);
        }
        return m.kind();
    }

    private boolean leased(int a, int station) {
        return leases.containsKey(a) && leases.get(a).tick() > now && leases.get(a).station() == station;
    }

    private boolean offered(int a, int station) {
        return offers.containsKey(a) && offers.get(a).tick() > now && offers.get(a).station() == station;
    }

    private boolean barred(int a) {
        return bars.getOrDefault(a, 0) > now;
    }

    private boolean free(int a, int station) {
        if (barred(a) || reserved.getOrDefault(a, station) != station) {
            return false;
        }
        for (int other = 0; other < 6; other++) {
            if (other != station && (leased(a, other) || offered(a, other))) {
                return false;
            }
        }
        return true;
    }

    private int choice(int station) {
        for (int a = 1; a < 30; a++) {
            if (leased(a, station) && free(a, station)) {
                return a;
            }
        }
        for (Map.Entry<Integer, Integer> r : reserved.entrySet()) {
            if (r.getValue() == station && free(r.getKey(), station)) {
                return r.getKey();
            }
        }
        int subnet = stations.get(station).subnet;
        if (pools.containsKey(subnet)) {
            for (int n = pools.get(subnet)[0]; n <= pools.get(subnet)[1]; n++) {
                if (free(10 * subnet + n, station)) {
                    return 10 * subnet + n;
                }
            }
        }
        return 0;
    }

    private boolean record(Rec r) {
        if (journal.size() == 16) {
            Map<Integer, Rec> last = new HashMap<>();
            journal.forEach(old -> last.put(old.address(), old));
            List<Rec> kept = new ArrayList<>();
            for (Rec old : journal) {
                if (last.get(old.address()) == old && old.tick() > now) {
                    kept.add(old);
                }
            }
            journal = kept;
        }
        if (journal.size() == 16) {
            return false;
        }
        journal.add(r);
        leases.put(r.address(), new Until(r.station(), r.tick()));
        return true;
    }

    private void sendBlock(int station, int block) {
        Sending t = sendings.get(station);
        t.tries = t.block == block ? t.tries + 1 : 1;
        t.block = block;
        t.due = now + WAIT;
        List<Integer> all = files.get(t.file);
        List<Integer> bytes = new ArrayList<>();
        for (int i = (block - 1) * size; i < block * size && i < all.size(); i++) {
            bytes.add(all.get(i));
        }
        t.lastSize = bytes.size();
        fromServer(9, station, 0, t.file, block, bytes);
    }

    private void atServer(Msg m) {
        int s = m.station();
        int item = m.item();
        switch (m.kind()) {
            case 0 -> {
                int a = choice(s);
                if (a != 0) {
                    offers.values().removeIf(o -> o.station() == s);
                    offers.put(a, new Until(s, now + 2 * WAIT));
                    fromServer(1, s, m.number(), a, 0, List.of());
                }
            }
            case 2 -> {
                if (!barred(item) && (leased(item, s) || offered(item, s)) && record(new Rec(item, s, now + lease))) {
                    offers.remove(item);
                    fromServer(3, s, m.number(), item, 0, List.of());
                } else {
                    fromServer(4, s, m.number(), item, 0, List.of());
                }
            }
            case 5 -> {
                if (leased(item, s)) {
                    bars.put(item, now + lease);
                }
            }
            case 8 -> {
                if (files.get(item).isEmpty()) {
                    fromServer(11, s, 0, item, 0, List.of());
                } else {
                    Sending t = new Sending();
                    t.file = item;
                    sendings.put(s, t);
                    sendBlock(s, 1);
                }
            }
            default -> {
                Sending t = sendings.get(s);
                if (t != null && t.file == item && t.block == m.block()) {
                    if (t.lastSize < size) {
                        sendings.remove(s);
                    } else {
                        sendBlock(s, t.block + 1);
                    }
                }
            }
        }
    }

    private void atStation(Msg m) {
        int i = m.station();
        St s = stations.get(i);
        boolean same = m.number() == s.number;
        boolean loads = s.holds() && s.result == 1 && list.get(s.entry).file() == m.item();
        if (m.kind() == 1 && same && s.state == 1) {
            s.address = m.item();
            s.state = 2;
            s.tries = 1;
            ask(i);
        } else if (m.kind() == 3 && same && m.item() == s.address && s.state == 2) {
            s.end = s.sent + lease;
            s.state = 3;
            fromStation(6, i, 0, s.address, 0);
            s.due = now + WAIT;
        } else if (m.kind() == 3 && same && m.item() == s.address && (s.state == 5 || s.state == 6)) {
            s.end = s.sent + lease;
            s.state = 4;
        } else if (m.kind() == 4 && same && (s.state == 2 || s.state == 5 || s.state == 6)) {
            select(i);
        } else if (m.kind() == 7 && s.state == 3 && m.item() == s.address) {
            fromStation(5, i, 0, s.address, 0);
            s.conflicts++;
            if (s.conflicts == limit) {
                fail(i, 8);
            } else {
                select(i);
            }
        } else if (m.kind() == 9 && loads && m.block() == s.block) {
            data(i, m);
        } else if (m.kind() == 11 && loads) {
            s.result = 3;
        }
    }

    private void data(int i, Msg m) {
        St s = stations.get(i);
        List<Integer> mine = s.loaded.get(s.entry);
        mine.addAll(m.bytes());
        fromStation(10, i, 0, m.item(), m.block());
        s.loadTries = 1;
        s.loadDue = now + WAIT;
        if (m.bytes().size() < size) {
            if (mine.size() != list.get(s.entry).length()) {
                s.result = 4;
            } else if (check(mine) != list.get(s.entry).check()) {
                s.result = 5;
            } else {
                load(i, s.entry + 1);
            }
        } else {
            s.block++;
            if (mine.size() > 40) {
                s.result = 4;
            }
        }
    }

    boolean alter(int k, boolean twice) {
        if (k < 0 || k >= row.size() || twice && row.size() == 32) {
            return false;
        }
        if (twice) {
            row.add(row.get(k));
        } else {
            row.remove(k);
        }
        return true;
    }

    int tick() {
        now++;
        for (int i = 0; i < stations.size(); i++) {
            tick(i, stations.get(i));
        }
        for (int i = 0; i < stations.size(); i++) {
            Sending t = sendings.get(i);
            if (t != null && t.due <= now) {
                if (t.tries == limit) {
                    sendings.remove(i);
                } else {
                    sendBlock(i, t.block);
                }
            }
        }
        return row.size();
    }

    private void tick(int i, St s) {
        if (s.holds() && now >= s.end) {
            select(i);
        } else if (s.state == 1 && now >= s.due && s.tries < limit) {
            s.tries++;
            fromStation(0, i, s.number, 0, 0);
            s.due = now + WAIT;
        } else if (s.state == 2 && now >= s.due && s.tries < limit) {
            s.tries++;
            ask(i);
        } else if ((s.state == 1 || s.state == 2) && now >= s.due) {
            fail(i, 7);
        } else if (s.state == 3 && now >= s.due && now >= s.end) {
            select(i);
        } else if (s.state == 3 && now >= s.due) {
            s.state = 4;
            if (s.result == 0) {
                load(i, 0);
            }
        } else if (s.state == 4 && 2 * (now - s.sent) >= lease) {
            s.state = 5;
            ask(i);
        } else if (s.state == 5 && 8 * (now - (s.end - lease)) >= 7 * lease) {
            s.state = 6;
            ask(i);
        } else if ((s.state == 5 || s.state == 6) && now >= s.due) {
            ask(i);
        } else if (s.holds() && s.result == 1 && now >= s.loadDue) {
            if (s.loadTries == limit) {
                s.result = 6;
                return;
            }
            s.loadTries++;
            s.loadDue = now + WAIT;
            if (s.block == 1) {
                fromStation(8, i, 0, list.get(s.entry).file(), 0);
            }
        }
    }

    int crash() {
        offers.clear();
        bars.clear();
        leases.clear();
        sendings.clear();
        journal.forEach(r -> leases.put(r.address(), new Until(r.station(), r.tick())));
        return journal.size();
    }

    int message(int k, int what) {
        if (k < 0 || k >= row.size() || what < 0 || what > 6) {
            return -1;
        }
        Msg m = row.get(k);
        return List.of(m.kind(), m.station(), m.number(), m.item(), m.block(), m.bytes().size(), m.leg()).get(what);
    }

    int station(int station, int what) {
        if (station < 0 || station >= stations.size() || what < 0 || what > 7) {
            return -1;
        }
        St s = stations.get(station);
        return List.of(s.state, s.address, s.number, s.end, s.conflicts, s.result, s.entry,
            s.loaded.get(s.entry).size()).get(what);
    }

    int image(int station, int k) {
        if (station < 0 || station >= stations.size()) {
            return -1;
        }
        List<Integer> all = new ArrayList<>();
        stations.get(station).loaded.forEach(all::addAll);
        return k < 0 || k >= all.size() ? -1 : all.get(k);
    }

    int lease(int a, int what) {
        Until l = leases.get(a);
        Until o = offers.get(a);
        if (what == 0 || what == 1) {
            return l == null || l.tick() <= now ? -1 : what == 0 ? l.station() : l.tick();
        }
        if (what == 2) {
            return o == null || o.tick() <= now ? -1 : o.station();
        }
        return what == 3 && barred(a) ? bars.get(a) : -1;
    }

    int journal() {
        return journal.size();
    }

    int fileSize(int file) {
        return files.get(file).size();
    }

    int underWay() {
        return row.size();
    }
}
