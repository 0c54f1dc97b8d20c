/** All that can be asked of a network as one text: two networks with the same picture answer alike. */
final class Picture {
    private final StringBuilder text = new StringBuilder();
    private final BootNet x;

    private Picture(BootNet x) {
        this.x = x;
    }

    static String of(BootNet x) {
        Picture p = new Picture(x);
        p.addMessages();
        p.addStations();
        p.addServer();
        return p.text.toString();
    }

    /** A picture after calls that bring to light what nobody can ask for: pools, the list, what is due. */
    static String later(BootNet x) {
        Picture p = new Picture(x);
        p.addTicks(4);
        p.addArrivals(40);
        p.addSetUp();
        for (int s = 0; s < 6; s++) {
            p.add("boot", x.boot(s) ? 1 : 0);
        }
        p.addArrivals(60);
        p.addTicks(3);
        p.addStations();
        p.addServer();
        return p.text.toString();
    }

    private void add(String what, int answer) {
        text.append(what).append(' ').append(answer).append('\n');
    }

    private void addMessages() {
        for (int k = 0; x.message(k, 0) != BootNet.NONE; k++) {
            for (int what = 0; what <= 6; what++) {
                add("message " + k + " " + what, x.message(k, what));
            }
        }
    }

    private void addStations() {
        for (int s = 0; x.station(s, 0) != BootNet.NONE; s++) {
            for (int what = 0; what <= 7; what++) {
                add("station " + s + " " + what, x.station(s, what));
            }
            for (int k = 0; x.image(s, k) != BootNet.NONE; k++) {
                add("image " + s + " " + k, x.image(s, k));
            }
        }
    }

    private void addServer() {
        for (int address : Nets.ADDRESSES) {
            for (int what = 0; what <= 3; what++) {
                add("lease " + address + " " + what, x.lease(address, what));
            }
        }
        add("journal", x.journal());
        for (int file = 0; file <= 3; file++) {
            add("check " + file, x.check(file));
        }
    }

    private void addTicks(int n) {
        for (int i = 0; i < n; i++) {
            add("tick", x.tick());
        }
    }

    private void addArrivals(int most) {
        for (int i = 0; i < most; i++) {
            int kind = x.deliver(0);
            add("deliver", kind);
            if (kind == BootNet.NONE) {
                break;
            }
        }
    }

    private void addSetUp() {
        for (int subnet = 0; subnet <= 2; subnet++) {
            int s = x.attach(subnet);
            add("attach", s);
            for (int n = 1; n <= 9; n++) {
                add("reserve " + n, x.reserve(s, n) ? 1 : 0);
            }
            add("pool " + subnet, x.pool(subnet, 1, 9) ? 1 : 0);
        }
        for (int address : Nets.ADDRESSES) {
            add("stranger " + address, x.stranger(address, true) ? 1 : 0);
            x.stranger(address, false);
        }
        for (int i = 0; i < 4; i++) {
            add("entry", x.entry(0, 40, 0) ? 1 : 0);
            add("put " + i, x.put(i, 255) ? 1 : 0);
        }
    }
}
