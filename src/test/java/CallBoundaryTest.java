/** The boundary cases that promises 1 to 13 name for each call: out of range, full, empty, not there. */
public final class CallBoundaryTest {
    private static final int LEAST = Integer.MIN_VALUE, MOST = Integer.MAX_VALUE;

    public static void main(String[] args) {
        lastCall();
        constants();
        newObject();
        octetsAreNone();
        octetsAreFull();
        refusedOctetsAreNotThere();
        arriveAgain();
        ticks();
        refusedTicks();
        framesOfTicks();
        keptFrames();
        keptOctets();
        nameRefused();
        nameFull();
        bodyRefused();
        bodyFull();
        spoilNotThere();
        spoilNoOctet();
        eraseTexts();
        knownAddresses();
        streamsOutOfRange();
        noStream();
        assembliesOutOfRange();
        noAssembly();
        countsOutOfRange();
        Check.end();
    }

    private static void lastCall() {
        Check.sentence("An object is used for at most 512 calls");
        Peer p = Peer.known();
        int[] echo = p.datagramFrame(1, 0, 1, 8);
        for (int i = 0; i < 45; i++) {
            p.frame(echo);
        }
        for (int i = 0; i < echo.length; i++) {
            Check.due("call " + (502 + i), p.host.octet(echo[i]), i + 1);
        }
        Check.due("call 512", p.host.arrive(), 1);
    }

    private static void constants() {
        Check.sentence("REFUSED = -1, FULL = -2");
        Check.due("REFUSED", WireHost.REFUSED, -1);
        Check.due("FULL", WireHost.FULL, -2);
    }

    private static void newObject() {
        Check.sentence("Nothing is KNOWN, stored, open or sent; TICK 0.");
        Peer used = Peer.open(9);
        used.store(0, "a", "b");
        used.datagram(1, 7, 1);
        used.host.tick(2);
        Peer p = Peer.unknown();
        Check.row("counts", p.countRow(), 0, 0, 0, 0, 0, 0, 0, 0, 0);
        for (int address = 0; address < 16; address++) {
            Check.due("known(" + address + ")", p.host.known(address), -1);
        }
        for (int s = 0; s < 3; s++) {
            Check.row("stream " + s, p.streamRow(s), new int[12]);
        }
        Check.row("assembly 0", p.assemblyRow(0), 0, 0, 0, 0, 0, 0);
        Check.row("assembly 1", p.assemblyRow(1), 0, 0, 0, 0, 0, 0);
        Check.due("sent(0, 0)", p.host.sent(0, 0), -1);
        for (int t = 0; t < 6; t++) {
            Check.due("erase(" + t + ")", p.host.erase(t), 0);
            Check.due("first letter of " + t, p.host.name(t, 97), 1);
            Check.due("first octet of " + t, p.host.body(t, 0), 1);
        }
    }

    private static void octetsAreNone() {
        Check.sentence("octet: REFUSED if it is none");
        WireHost h = new WireHost();
        int[] none = {LEAST, -256, -1, 256, 257, 511, MOST};
        for (int v : none) {
            Check.due("octet(" + v + ")", h.octet(v), -1);
        }
        Check.due("octets that came", h.count(7), 0);
        Check.due("octet(0)", h.octet(0), 1);
        Check.due("octet(255)", h.octet(255), 2);
    }

    private static void octetsAreFull() {
        Check.sentence("octet: FULL if there are 44");
        WireHost h = new WireHost();
        for (int i = 1; i <= 44; i++) {
            Check.due("octet no. " + i, h.octet(255), i);
        }
        Check.due("octet no. 45", h.octet(0), -2);
        Check.due("octet no. 45 again", h.octet(255), -2);
        Check.due("what is no octet then", h.octet(256), -1);
        Check.due("octets that came", h.count(7), 44);
    }

    private static void refusedOctetsAreNotThere() {
        Check.sentence("octet: a refused one does not come to the FRAME");
        Peer p = Peer.unknown();
        p.host.octet(1);
        p.host.octet(-1);
        p.host.octet(3);
        p.host.octet(256);
        Check.due("the other octets of ASK", p.frame(1, 3, 1), 1);
        Check.due("known(3)", p.host.known(3), 3);
    }

    private static void arriveAgain() {
        Check.sentence("arrive: the next one has no OCTETS");
        Peer p = Peer.unknown();
        Check.due("a frame", p.frame(1, 3, 2, 3, 1), 0);
        Check.due("octets of the next", p.host.count(7), 0);
        Check.due("the next at once", p.host.arrive(), -1);
        Check.due("a dropped one", p.frame(1, 3, 2, 3), -1);
        Check.due("octets of the next", p.host.count(7), 0);
        Check.due("its first octet", p.host.octet(1), 1);
        p.host.arrive();
        for (int i = 0; i < 44; i++) {
            p.host.octet(9);
        }
        Check.due("a full one", p.host.arrive(), -1);
        Check.due("the first octet behind it", p.host.octet(1), 1);
    }

    private static void ticks() {
        Check.sentence("tick: n TICKS (1..40)");
        WireHost h = new WireHost();
        Check.due("tick(1)", h.tick(1), 0);
        Check.due("ticks", h.count(0), 1);
        Check.due("tick(40)", h.tick(40), 0);
        Check.due("ticks", h.count(0), 41);
        Check.due("tick(39)", h.tick(39), 0);
        Check.due("ticks", h.count(0), 80);
    }

    private static void refusedTicks() {
        Check.sentence("tick: REFUSED for another n");
        Peer p = Peer.known();
        p.segment(50, 0, Peer.SYN, 9);
        p.datagram(1, 7, 1);
        int[] others = {LEAST, -40, -1, 0, 41, 256, MOST};
        for (int n : others) {
            Check.due("tick(" + n + ")", p.host.tick(n), -1);
        }
        Check.due("ticks", p.host.count(0), 0);
        Check.due("the timer", p.host.stream(0, 11), 0);
        Check.due("the age", p.host.assembly(0, 5), 0);
        Check.due("frames sent", p.host.count(3), 1);
    }

    private static void framesOfTicks() {
        Check.sentence("tick: how many FRAMES were sent in them");
        Peer p = Peer.known();
        p.segment(50, 0, Peer.SYN, 9);
        Check.due("one tick before the timer", p.host.tick(3), 0);
        Check.due("the tick of the timer", p.host.tick(1), 1);
        Check.due("8 and 16 more", p.host.tick(24), 2);
        Check.due("32 more", p.host.tick(32), 1);
        Check.due("nothing is left", p.host.tick(40), 0);
    }

    private static void keptFrames() {
        Check.sentence("sent: k 0 the latest, the latest 12 are kept");
        Peer p = Peer.unknown();
        for (int i = 0; i < 14; i++) {
            p.frame(1, i, 1, 15 - i, 1);
            Check.due("the latest of " + (i + 1), p.host.sent(0, 0), i);
            int oldest = Math.min(i, 11);
            Check.due("the oldest of " + (i + 1), p.host.sent(oldest, 0), i - oldest);
            Check.due("one before it", p.host.sent(oldest + 1, 0), -1);
        }
        for (int k = 0; k < 12; k++) {
            Check.due("sent(" + k + ", 4)", p.host.sent(k, 4), 2 + k);
        }
        int[] none = {LEAST, -12, -1, 12, 13, 24, MOST};
        for (int k : none) {
            Check.due("sent(" + k + ", 0)", p.host.sent(k, 0), -1);
        }
    }

    private static void keptOctets() {
        Check.sentence("sent: REFUSED if there is none");
        Peer p = Peer.known();
        p.datagram(1, 0, 1, Peer.run(8, 32));
        p.frame(1, 3, 1, 3, 1);
        Check.due("octet 4 of a frame of 5", p.host.sent(0, 4), 3);
        Check.due("octet 5 of it", p.host.sent(0, 5), -1);
        Check.due("octet 24 of a frame of 25", p.host.sent(1, 24), 39);
        Check.due("octet 25 of it", p.host.sent(1, 25), -1);
        int[] none = {LEAST, -1, 41, 44, MOST};
        for (int i : none) {
            Check.due("sent(0, " + i + ")", p.host.sent(0, i), -1);
        }
        for (int i = 0; i < 11; i++) {
            p.frame(1, 3, 1, 3, 1);
        }
        for (int k = 0; k < 12; k++) {
            Check.due("octet 4 of one that may stand where one of 25 was", p.host.sent(k, 4), 3);
            Check.due("octet 5 of it", p.host.sent(k, 5), -1);
        }
    }

    private static void nameRefused() {
        Check.sentence("name: REFUSED if t is not 0..5 or c not 97..122");
        WireHost h = new WireHost();
        int[] noTexts = {LEAST, -1, 6, MOST};
        for (int t : noTexts) {
            Check.due("name(" + t + ", 97)", h.name(t, 97), -1);
        }
        int[] noLetters = {LEAST, -1, 0, 65, 90, 96, 123, 255, 353, MOST};
        for (int c : noLetters) {
            Check.due("name(0, " + c + ")", h.name(0, c), -1);
        }
        Check.due("name(0, 97)", h.name(0, 97), 1);
        Check.due("name(0, 122)", h.name(0, 122), 2);
        Check.due("name(5, 97)", h.name(5, 97), 1);
    }

    private static void nameFull() {
        Check.sentence("name: FULL if it has 4");
        Peer p = Peer.open(50);
        p.store(0, "abc", "x");
        Check.due("the fourth letter", p.host.name(0, 'd'), 4);
        Check.due("the fifth", p.host.name(0, 'e'), -2);
        Check.due("no letter as the fifth", p.host.name(0, 96), -1);
        Check.due("another name has room", p.host.name(1, 'e'), 1);
        p.text(51, 1, Peer.ACK, 50, "Gabcd\n");
        Check.row("the name is what it was", p.sentPayload(0), 20, 1, 57, 16, 16, 50, 'x', 10);
    }

    private static void bodyRefused() {
        Check.sentence("body: REFUSED if t is not 0..5 or c no OCTET");
        Peer p = Peer.open(50);
        int[] noTexts = {LEAST, -1, 6, MOST};
        for (int t : noTexts) {
            Check.due("body(" + t + ", 0)", p.host.body(t, 0), -1);
        }
        int[] noOctets = {LEAST, -1, 256, 300, MOST};
        for (int c : noOctets) {
            Check.due("body(0, " + c + ")", p.host.body(0, c), -1);
        }
        Check.due("body(0, 0)", p.host.body(0, 0), 1);
        Check.due("body(0, 255)", p.host.body(0, 255), 2);
        Check.due("body(5, 0)", p.host.body(5, 0), 1);
        p.host.name(0, 'a');
        p.text(51, 1, Peer.ACK, 50, "Ga\n");
        Check.row("body and check have nothing of the refused", p.sentPayload(0), 20, 1, 54, 16, 16, 50, 0, 255, 10);
    }

    private static void bodyFull() {
        Check.sentence("body: FULL if it has 16");
        Peer p = Peer.open(50);
        p.store(0, "a", "0123456789abcde");
        Check.due("the sixteenth octet", p.host.body(0, 'f'), 16);
        Check.due("the seventeenth", p.host.body(0, 1), -2);
        Check.due("no octet as the seventeenth", p.host.body(0, 256), -1);
        Check.due("another body has room", p.host.body(1, 1), 1);
        p.text(51, 1, Peer.ACK, 50, "Ga\n");
        Check.due("the check is what it was", p.host.stream(0, 6), 18);
        Check.due("octets of the body", p.host.erase(0), 16);
    }

    private static void spoilNotThere() {
        Check.sentence("spoil: REFUSED if there is none");
        WireHost h = new WireHost();
        Check.due("an empty body", h.spoil(0, 0, 1), -1);
        h.body(0, 7);
        h.body(5, 8);
        Check.due("its only octet", h.spoil(0, 0, 0), 7);
        Check.due("what it became", h.spoil(0, 0, 255), 0);
        Check.due("what it became then", h.spoil(0, 0, 7), 255);
        Check.due("text 5", h.spoil(5, 0, 9), 8);
        int[] none = {LEAST, -1, 1, 15, 16, MOST};
        for (int i : none) {
            Check.due("spoil(0, " + i + ", 1)", h.spoil(0, i, 1), -1);
        }
        int[] noTexts = {LEAST, -1, 6, MOST};
        for (int t : noTexts) {
            Check.due("spoil(" + t + ", 0, 1)", h.spoil(t, 0, 1), -1);
        }
        for (int i = 1; i < 16; i++) {
            h.body(0, i);
        }
        Check.due("the last octet of a full one", h.spoil(0, 15, 1), 15);
        Check.due("one behind it", h.spoil(0, 16, 1), -1);
        h.erase(0);
        Check.due("what was erased", h.spoil(0, 0, 1), -1);
    }

    private static void spoilNoOctet() {
        Check.sentence("spoil: REFUSED if c is no OCTET");
        WireHost h = new WireHost();
        h.body(0, 7);
        int[] none = {LEAST, -1, 256, 263, MOST};
        for (int c : none) {
            Check.due("spoil(0, 0, " + c + ")", h.spoil(0, 0, c), -1);
        }
        Check.due("it is what it was", h.spoil(0, 0, 0), 7);
    }

    private static void eraseTexts() {
        Check.sentence("erase: how many OCTETS the BODY had; REFUSED if t is not 0..5");
        Peer p = Peer.open(50);
        int[] noTexts = {LEAST, -1, 6, MOST};
        for (int t : noTexts) {
            Check.due("erase(" + t + ")", p.host.erase(t), -1);
        }
        Check.due("an empty one", p.host.erase(0), 0);
        p.store(0, "abcd", "0123456789abcdef");
        p.store(5, "e", "f");
        Check.due("a full one", p.host.erase(0), 16);
        Check.due("again", p.host.erase(0), 0);
        Check.due("its name is empty", p.host.name(0, 'a'), 1);
        Check.due("its body is empty", p.host.body(0, 'x'), 1);
        p.text(51, 1, Peer.ACK, 50, "Ga\n");
        Check.row("its check was 0", p.sentPayload(0), 20, 1, 54, 16, 16, 50, 'x', 10);
        Check.due("text 5", p.host.erase(5), 1);
    }

    private static void knownAddresses() {
        Check.sentence("known: REFUSED if it is not");
        Peer p = Peer.unknown();
        p.frame(1, 14, 2, 0, 1);
        p.frame(1, 0, 2, 15, 1);
        Check.due("known(0)", p.host.known(0), 14);
        Check.due("known(15)", p.host.known(15), 0);
        for (int address = 1; address < 15; address++) {
            Check.due("known(" + address + ")", p.host.known(address), -1);
        }
        int[] none = {LEAST, -1, 16, 255, MOST};
        for (int address : none) {
            Check.due("known(" + address + ")", p.host.known(address), -1);
        }
    }

    private static void streamsOutOfRange() {
        Check.sentence("stream: REFUSED if s is not 0..2, or for others");
        Peer p = Peer.known();
        for (int port = 0; port < 3; port++) {
            p.port = port;
            p.segment(50, 0, Peer.SYN, 9);
        }
        int[] noStreams = {LEAST, -1, 3, MOST};
        for (int s : noStreams) {
            Check.due("stream(" + s + ", 0)", p.host.stream(s, 0), -1);
            Check.due("stream(" + s + ", 12)", p.host.stream(s, 12), -1);
        }
        int[] others = {LEAST, -1, 12, 255, MOST};
        for (int s = 0; s < 3; s++) {
            for (int what : others) {
                Check.due("stream(" + s + ", " + what + ")", p.host.stream(s, what), -1);
            }
            Check.row("stream " + s, p.streamRow(s), 1, 3, s, 51, 0, 1, 0, 0, 9, 1, 0, 0);
        }
    }

    private static void noStream() {
        Check.sentence("stream: 0 for all if there is none");
        Peer p = Peer.open(9);
        Check.row("stream 1", p.streamRow(1), new int[12]);
        Check.due("stream(1, 12)", p.host.stream(1, 12), -1);
        p.text(51, 1, Peer.ACK, 9, "\nGa");
        p.host.tick(5);
        Check.row("stream 0", p.streamRow(0), 2, 3, 20, 54, 1, 3, 2, 2, 9, 1, 1, 1);
        p.segment(54, 0, Peer.RESET, 0);
        Check.row("stream 0 that is gone", p.streamRow(0), new int[12]);
        Check.due("stream(0, 12)", p.host.stream(0, 12), -1);
    }

    private static void assembliesOutOfRange() {
        Check.sentence("assembly: REFUSED if k is not 0..1, or for others");
        Peer p = Peer.known();
        p.datagram(0, 128, 1, 8, 0, 0, 0);
        p.datagram(255, 7, 1, 8, 0, 0, 0);
        int[] none = {LEAST, -1, 2, MOST};
        for (int k : none) {
            Check.due("assembly(" + k + ", 0)", p.host.assembly(k, 0), -1);
            Check.due("assembly(" + k + ", 6)", p.host.assembly(k, 6), -1);
        }
        int[] others = {LEAST, -1, 6, 255, MOST};
        for (int k = 0; k < 2; k++) {
            for (int what : others) {
                Check.due("assembly(" + k + ", " + what + ")", p.host.assembly(k, what), -1);
            }
        }
        Check.row("assembly 0", p.assemblyRow(0), 1, 3, 0, 1, -1, 0);
        Check.row("assembly 1", p.assemblyRow(1), 1, 3, 255, 128, 32, 0);
    }

    private static void noAssembly() {
        Check.sentence("assembly: 0 for all if it is not in use");
        Peer p = Peer.known();
        p.datagram(9, 128 + 1, 1, 1, 2, 3, 4);
        p.host.tick(3);
        Check.row("assembly 0", p.assemblyRow(0), 1, 3, 9, 2, -1, 3);
        Check.row("assembly 1", p.assemblyRow(1), 0, 0, 0, 0, 0, 0);
        Check.due("assembly(1, 6)", p.host.assembly(1, 6), -1);
        p.datagram(9, 128 + 1, 1, 1, 2, 3, 4);
        Check.row("assembly 0 that is lost", p.assemblyRow(0), 0, 0, 0, 0, 0, 0);
        Check.due("assembly(0, 6)", p.host.assembly(0, 6), -1);
        p.host.tick(1);
        Check.due("its age does not go on", p.host.assembly(0, 5), 0);
    }

    private static void countsOutOfRange() {
        Check.sentence("count: REFUSED for others");
        Peer p = Peer.open(9);
        int[] others = {LEAST, -1, 9, 10, MOST};
        for (int what : others) {
            Check.due("count(" + what + ")", p.host.count(what), -1);
        }
        Check.row("counts", p.countRow(), 0, 3, 0, 1, 1, 1, 0, 0, 0);
    }
}
