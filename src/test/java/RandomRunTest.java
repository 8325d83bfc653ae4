import java.util.Random;

/** Runs of calls, wild and half wild, with what holds after any of them: no call throws, no answer leaves its range. */
public final class RandomRunTest {
    private static final int[] ODD = {Integer.MIN_VALUE, -2, -1, 0, 1, 2, 3, 5, 6, 12, 15, 16, 40, 41, 44, 97, 122, 255, 256, Integer.MAX_VALUE};

    public static void main(String[] args) {
        for (int seed = 0; seed < 3000; seed++) {
            Random random = new Random(seed);
            WireHost one = new WireHost();
            WireHost other = new WireHost();
            prepare(one);
            prepare(other);
            for (int i = 0; i < 200; i++) {
                long act = random.nextLong();
                Check.due("run " + seed + ": the same calls again", act(other, new Random(act)), act(one, new Random(act)));
            }
            limits(seed, one);
        }
        Check.end();
    }

    private static void prepare(WireHost h) {
        Peer p = new Peer(h);
        p.frame(1, 3, 2, 3, 1);
        p.store(0, "a", "0123456789abcdef");
        p.store(1, "b", "x");
    }

    private static int act(WireHost h, Random random) {
        switch (random.nextInt(8)) {
            case 0:
                return wild(h, random);
            case 1:
                return h.tick(1 + random.nextInt(6));
            case 2:
                Peer fragments = new Peer(h);
                int place = random.nextInt(8) | (random.nextBoolean() ? 128 : 0);
                return fragments.datagram(random.nextInt(3), place, 1, Peer.run(8, 4 * random.nextInt(3) + random.nextInt(2)));
            default:
                return segment(h, random);
        }
    }

    private static int segment(WireHost h, Random random) {
        Peer p = new Peer(h);
        int s = random.nextInt(3);
        p.port = s;
        p.address = random.nextInt(8) == 0 ? 4 : 3;
        int at = 0;
        for (int i = 0; i < 3; i++) {
            if (h.stream(i, 0) != 0 && h.stream(i, 2) == s) {
                at = i;
            }
        }
        int[] flags = {16, 16, 16, 16, 16, 16, 2, 2, 17, 4, 0, 18};
        int number = h.stream(at, 3) + (random.nextInt(6) == 0 ? random.nextInt(3) - 1 : 0);
        int ack = random.nextInt(3) == 0 ? h.stream(at, 4) + random.nextInt(20) : h.stream(at, 5);
        String[] lines = {"", "", "Ga\n", "Gb\n", "Ga\nGa\nGa\n", "\n\n\n\n", "aaaaaaaa", "Gc\nG", "a\n"};
        int flag = flags[random.nextInt(flags.length)];
        String line = flag == 2 ? "" : lines[random.nextInt(lines.length)];
        return p.text(number, ack, flag, random.nextInt(4) == 0 ? random.nextInt(256) : 40, line);
    }

    private static int wild(WireHost h, Random random) {
        int a = ODD[random.nextInt(ODD.length)];
        int b = ODD[random.nextInt(ODD.length)];
        int c = ODD[random.nextInt(ODD.length)];
        switch (random.nextInt(12)) {
            case 0: return h.octet(a);
            case 1: return h.arrive();
            case 2: return h.tick(a);
            case 3: return h.sent(a, b);
            case 4: return h.name(a, b);
            case 5: return h.body(a, b);
            case 6: return h.spoil(a, b, c);
            case 7: return random.nextInt(10) == 0 ? h.erase(a) : 0;
            case 8: return h.known(a);
            case 9: return h.stream(a, b);
            case 10: return h.assembly(a, b);
            default: return h.count(a);
        }
    }

    private static void limits(int seed, WireHost h) {
        int[] least = {0, 0, 0, 0, 0, 0, 0, 0, 0, 1, 0, 0};
        int[] most = {4, 15, 255, 255, 255, 255, 64, 16, 255, 4, 3, 31};
        for (int s = 0; s < 3; s++) {
            for (int what = 0; what < 12; what++) {
                int v = h.stream(s, what);
                boolean none = h.stream(s, 0) == 0;
                Check.holds("run " + seed + ": stream(" + s + ", " + what + ") = " + v + " is in its range",
                        none ? v == 0 : v >= least[what] && v <= most[what]);
            }
            int onTheWay = (h.stream(s, 5) - h.stream(s, 4)) & 255;
            Check.holds("run " + seed + ": at most 32 and FIN are on the way", onTheWay <= 33);
            Check.holds("run " + seed + ": no timer without something on the way", onTheWay > 0 || h.stream(s, 11) == 0);
        }
        for (int k = 0; k < 2; k++) {
            Check.holds("run " + seed + ": age of assembly " + k, h.assembly(k, 5) >= 0 && h.assembly(k, 5) < 15);
            Check.holds("run " + seed + ": end of assembly " + k, h.assembly(k, 4) >= -1 && h.assembly(k, 4) <= 32);
        }
        Check.holds("run " + seed + ": dropped ones arrived", h.count(2) <= h.count(1));
        Check.holds("run " + seed + ": ids are not above frames", h.count(4) <= h.count(3));
    }
}
