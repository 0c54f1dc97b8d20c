/** The example of README.md, line for line: whoever changes one of the two changes the other. */
public final class ReadmeTest {
    public static void main(String[] args) {
        BootNet net = new BootNet(20, 3, 4);
        net.pool(0, 1, 9);
        int s = net.attach(0);
        net.put(0, 97);
        net.entry(0, 1, net.check(0));
        net.boot(s);
        for (int i = 0; i < 8; i++) {
            while (net.deliver(0) != BootNet.NONE) { }
            net.tick();
        }
        Due.is("readme: bound", net.station(s, 0), 4);
        Due.is("readme: all is loaded", net.station(s, 5), 2);
        Due.is("readme: the image", net.image(s, 0), 97);
        Due.end();
    }
}
