/** Promises 6 to 9: texts, and what their lines are answered. */
public final class TextTest {
    public static void main(String[] args) {
        names();
        bodies();
        spoiling();
        erasing();
        answers();
        lines();
        linesWithoutEnd();
        spoiledAnswers();
        Check.end();
    }

    private static void names() {
        WireHost h = new WireHost();
        for (int t = 0; t < 6; t++) {
            Check.due("96", h.name(t, 96), -1);
            Check.due("123", h.name(t, 123), -1);
            Check.due("first", h.name(t, 97), 1);
            Check.due("second", h.name(t, 122), 2);
            Check.due("third", h.name(t, 97), 3);
            Check.due("fourth", h.name(t, 97), 4);
            Check.due("fifth", h.name(t, 97), -2);
            Check.due("no letter as fifth", h.name(t, 65), -1);
        }
        Check.due("name(-1, 97)", h.name(-1, 97), -1);
        Check.due("name(6, 97)", h.name(6, 97), -1);
        Check.due("name(int min, 97)", h.name(Integer.MIN_VALUE, 97), -1);
    }

    private static void bodies() {
        WireHost h = new WireHost();
        for (int t = 0; t < 6; t++) {
            Check.due("-1", h.body(t, -1), -1);
            Check.due("256", h.body(t, 256), -1);
            for (int i = 1; i <= 16; i++) {
                Check.due("octet " + i, h.body(t, i == 1 ? 0 : 255), i);
            }
            Check.due("seventeenth", h.body(t, 0), -2);
            Check.due("no octet as seventeenth", h.body(t, 256), -1);
        }
        Check.due("body(-1, 0)", h.body(-1, 0), -1);
        Check.due("body(6, 0)", h.body(6, 0), -1);
        Check.due("body(int max, 0)", h.body(Integer.MAX_VALUE, 0), -1);
    }

    private static void spoiling() {
        WireHost h = new WireHost();
        h.body(2, 10);
        h.body(2, 20);
        Check.due("spoil(2, 1, 255)", h.spoil(2, 1, 255), 20);
        Check.due("spoil(2, 1, 0)", h.spoil(2, 1, 0), 255);
        Check.due("spoil(2, 0, 0)", h.spoil(2, 0, 0), 10);
        Check.due("spoil(2, 2, 0)", h.spoil(2, 2, 0), -1);
        Check.due("spoil(2, -1, 0)", h.spoil(2, -1, 0), -1);
        Check.due("spoil(2, 0, 256)", h.spoil(2, 0, 256), -1);
        Check.due("spoil(2, 0, -1)", h.spoil(2, 0, -1), -1);
        Check.due("spoil(1, 0, 0)", h.spoil(1, 0, 0), -1);
        Check.due("spoil(6, 0, 0)", h.spoil(6, 0, 0), -1);
        Check.due("spoil(-1, 0, 0)", h.spoil(-1, 0, 0), -1);
        Check.due("it was 0 all the time", h.spoil(2, 0, 5), 0);
    }

    private static void erasing() {
        Peer p = Peer.open(100);
        p.store(3, "abcd", "12345");
        Check.due("erase(3)", p.host.erase(3), 5);
        Check.due("erase(3) again", p.host.erase(3), 0);
        Check.due("erase(6)", p.host.erase(6), -1);
        Check.due("erase(-1)", p.host.erase(-1), -1);
        Check.due("spoil of what is gone", p.host.spoil(3, 0, 0), -1);
        p.text(51, 1, Peer.ACK, 100, "Gabcd\n");
        Check.row("its name is gone", p.sentPayload(0), 20, 1, 57, 16, 16, 52, 10);
        Check.due("the name begins anew", p.host.name(3, 120), 1);
        Check.due("the body begins anew", p.host.body(3, 7), 1);
        p.text(57, 3, Peer.ACK, 100, "Gx\n");
        Check.row("the check begins anew", p.sentPayload(0), 20, 3, 60, 16, 16, 50, 7, 10);
    }

    private static int[] answer(Peer p, String line) {
        int next = p.host.stream(0, 3);
        p.text(next, p.host.stream(0, 5), Peer.ACK, 100, line);
        int[] payload = p.sentPayload(0);
        return java.util.Arrays.copyOfRange(payload, 5, payload.length);
    }

    private static void answers() {
        Peer p = Peer.open(100);
        p.store(5, "a", "five");
        p.store(1, "a", "1");
        p.store(2, "ab", "");
        p.store(4, "wxyz", "xyz");
        Check.row("the least number counts", answer(p, "Ga\n"), 50, '1', 10);
        Check.row("an empty body", answer(p, "Gab\n"), 50, 10);
        Check.row("four letters", answer(p, "Gwxyz\n"), 50, 'x', 'y', 'z', 10);
        Check.row("a name's beginning", answer(p, "Gwxy\n"), 52, 10);
        Check.row("a name and more", answer(p, "Gabc\n"), 52, 10);
        Check.row("another name", answer(p, "Gb\n"), 52, 10);
        p.host.erase(1);
        Check.row("then the next one counts", answer(p, "Ga\n"), 50, 'f', 'i', 'v', 'e', 10);
        Check.due("lines answered", p.host.count(6), 7);
    }

    private static void lines() {
        Peer p = Peer.open(100);
        p.store(0, "a", "A");
        Check.row("no name", answer(p, "G\n"), 48, 10);
        Check.row("an end alone", answer(p, "\n"), 48, 10);
        Check.row("five letters", answer(p, "Gabcde\n"), 48, 10);
        Check.row("another beginning", answer(p, "ga\n"), 48, 10);
        Check.row("a great letter", answer(p, "GA\n"), 48, 10);
        Check.row("96", answer(p, "G`\n"), 48, 10);
        Check.row("123", answer(p, "G{\n"), 48, 10);
    }

    private static void linesWithoutEnd() {
        Peer p = Peer.open(100);
        p.store(0, "a", "A");
        Check.row("six octets are no line", answer(p, "Gaaaaa"));
        Check.due("IN", p.host.stream(0, 7), 6);
        Check.row("seven without an end are", answer(p, "a"), 48, 10);
        Check.due("IN", p.host.stream(0, 7), 0);
        Check.row("the end behind seven is a line of its own", answer(p, "Gaaaaaa\nGa\n"), 48, 10, 48, 10, 50, 'A', 10);
        Check.row("a line in parts", answer(p, "G"));
        Check.row("a line in parts", answer(p, "a"));
        Check.row("and its end", answer(p, "\n"), 50, 'A', 10);
    }

    private static void spoiledAnswers() {
        Peer p = Peer.open(100);
        p.store(0, "a", "AB");
        p.store(1, "a", "right");
        p.host.spoil(0, 0, 'B');
        Check.row("spoiled", answer(p, "Ga\n"), 53, 10);
        p.host.spoil(0, 1, 'A');
        Check.row("the same sum", answer(p, "Ga\n"), 50, 'B', 'A', 10);
        p.host.spoil(0, 1, 'B');
        p.host.body(0, 'C');
        Check.row("more does not mend it", answer(p, "Ga\n"), 53, 10);
        p.host.spoil(0, 1, 'A');
        Check.row("what was there does", answer(p, "Ga\n"), 50, 'B', 'A', 'C', 10);
        p.store(2, "b", "");
        p.host.body(2, 255);
        p.host.body(2, 255);
        Check.row("sums are modulo 256", answer(p, "Gb\n"), 50, 255, 255, 10);
        p.host.spoil(2, 0, 254);
        Check.row("spoiled modulo 256", answer(p, "Gb\n"), 53, 10);
    }
}
