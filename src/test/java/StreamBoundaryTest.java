/** The boundary cases of "Terms" that are about segments: streams begun, reset, acknowledged, filled and closed. */
public final class StreamBoundaryTest {
    private static final int FIN = Peer.FIN, SYN = Peer.SYN, RESET = Peer.RESET, ACK = Peer.ACK;
    private static final int[] NONE = new int[12];
    private static final int OPENING = 1, OPEN = 2, CLOSING = 3, LAST = 4;

    public static void main(String[] args) {
        atMostThree();
        leastFree();
        ports();
        addressAndPort();
        mostData();
        otherFlags();
        strangers();
        strangersWithData();
        numbersOfResets();
        numberOfSyn();
        firstNumber();
        resetNumbers();
        resetInEveryState();
        synInEveryState();
        withoutAckInEveryState();
        acksOfOpening();
        acksOfOut();
        acksThatGoRound();
        acksOfNothing();
        acknowledgedGoes();
        paceAtMostFour();
        lastIfAllIs();
        windowWhateverAck();
        openingStill();
        numberIsNext();
        nextGoesRound();
        roomInIn();
        finBehindWhatFits();
        finWithFullIn();
        finWithWrongNumber();
        ackForDataOrFin();
        ackUnlessPushed();
        goneAndBegunAnew();
        Check.end();
    }

    /** A stream in a state: NEXT is 53 in CLOSING, 52 in LAST, else 51; SENT is 2 in LAST, else 1. */
    private static Peer in(int state) {
        if (state == OPENING) {
            Peer p = Peer.known();
            p.segment(50, 0, SYN, 9);
            return p;
        }
        Peer p = Peer.open(9);
        if (state == CLOSING) {
            p.text(51, 1, ACK, 0, "\n");
            p.segment(52, 1, ACK | FIN, 0);
        } else if (state == LAST) {
            p.segment(51, 1, ACK | FIN, 9);
        }
        Check.due("the state", p.host.stream(0, 0), state);
        return p;
    }

    private static void atMostThree() {
        Check.sentence("STREAMS: at most 3");
        Peer p = Peer.known();
        for (int port = 1; port <= 3; port++) {
            p.port = port;
            Check.due("SYN " + port, p.segment(50, 0, SYN, 9), 1);
            Check.due("its flags", p.host.sent(0, 12), SYN | ACK);
        }
        p.port = 4;
        Check.due("a fourth", p.segment(50, 77, SYN, 9), 1);
        Check.row("RESET", p.sentPayload(0), 4, 77, 0, RESET, 0);
        Check.due("streams begun", p.host.count(5), 3);
        for (int s = 0; s < 3; s++) {
            Check.due("port of " + s, p.host.stream(s, 2), s + 1);
        }
    }

    private static void leastFree() {
        Check.sentence("if there is one free (the least number is taken)");
        for (int gone = 0; gone < 3; gone++) {
            Peer p = Peer.known();
            for (int port = 0; port < 3; port++) {
                p.port = port;
                p.segment(50, 0, SYN, 9);
            }
            for (int port = gone; port < 3; port++) {
                p.port = port;
                p.segment(51, 0, RESET, 0);
            }
            p.port = 9;
            Check.due("SYN", p.segment(60, 0, SYN, 9), 1);
            Check.row("stream " + gone, p.streamRow(gone), 1, 3, 9, 61, 0, 1, 0, 0, 9, 1, 0, 0);
            Check.due("streams begun", p.host.count(5), 4);
        }
    }

    private static void ports() {
        Check.sentence("a PORT (an OCTET)");
        Peer p = Peer.known();
        p.port = 0;
        Check.due("SYN of port 0", p.segment(50, 0, SYN, 9), 1);
        p.port = 255;
        Check.due("SYN of port 255", p.segment(50, 0, SYN, 9), 1);
        Check.due("the first", p.host.stream(0, 2), 0);
        Check.due("the second", p.host.stream(1, 2), 255);
        p.segment(51, 1, ACK, 9);
        Check.due("the first is opening", p.host.stream(0, 0), OPENING);
        Check.due("the second is open", p.host.stream(1, 0), OPEN);
    }

    private static void addressAndPort() {
        Check.sentence("No STREAM with that ADDRESS and PORT");
        Peer p = Peer.open(9);
        p.address = 4;
        Check.due("the same port of another address", p.segment(51, 8, ACK, 9, 71), 1);
        Check.row("ASK, for it is not known", p.sentFrame(0), 15, 1, 1, 1, 4);
        p.frame(1, 4, 2, 4, 1);
        p.segment(51, 8, ACK, 9, 71);
        Check.row("RESET", p.sentPayload(0), 20, 8, 0, RESET, 0);
        p.address = 3;
        p.port = 21;
        p.segment(51, 8, ACK, 9, 71);
        Check.row("RESET for another port", p.sentPayload(0), 21, 8, 0, RESET, 0);
        Check.due("IN", p.host.stream(0, 7), 0);
    }

    private static void mostData() {
        Check.sentence("DATA of 0..27 OCTETS");
        Peer p = Peer.open(0);
        Check.due("27", p.text(51, 1, ACK, 0, "x".repeat(27)), 1);
        Check.row("16 are taken, two lines of 7 are read", p.streamRow(0), 2, 3, 20, 67, 1, 1, 4, 2, 0, 2, 0, 0);
        Check.row("ACK", p.sentPayload(0), 20, 1, 67, ACK, 14);
        Check.due("28", p.text(67, 1, ACK, 0, "x".repeat(28)), -1);
        Check.due("none", p.segment(67, 1, ACK, 0), 0);
    }

    private static void otherFlags() {
        Check.sentence("Flags: 1 FIN, 2 SYN, 4 RESET, 16 ACK (others are not looked at)");
        int[] others = {8, 32, 64, 128, 8 + 32 + 64 + 128};
        for (int f : others) {
            Peer p = Peer.known();
            p.segment(50, 7, f, 9);
            Check.row("RESET for " + f, p.sentPayload(0), 20, 7, 0, RESET, 0);
            p.segment(50, 7, SYN | f, 9);
            Check.due("SYN with " + f, p.host.stream(0, 0), OPENING);
            p.segment(51, 1, f, 9);
            Check.due(f + " alone", p.host.stream(0, 0), OPENING);
            p.segment(51, 1, ACK | f, 9);
            Check.due("ACK with " + f, p.host.stream(0, 0), OPEN);
            p.segment(51, 1, RESET | f, 9);
            Check.due("RESET with " + f, p.host.stream(0, 0), 0);
        }
    }

    private static void strangers() {
        Check.sentence("RESET: nothing. SYN without ACK and FIN. Else, and for all others, RESET is sent");
        for (int f = 0; f <= 255; f++) {
            Peer p = Peer.known();
            boolean reset = (f & RESET) != 0;
            boolean opens = !reset && (f & (SYN | ACK | FIN)) == SYN;
            Check.due("flags " + f, p.segment(50, 7, f, 9), reset ? 0 : 1);
            Check.due("the state", p.host.stream(0, 0), opens ? OPENING : 0);
            Check.due("the flags that were sent", p.host.sent(0, 12), reset ? -1 : opens ? SYN | ACK : RESET);
            Check.due("streams begun", p.host.count(5), opens ? 1 : 0);
        }
    }

    private static void strangersWithData() {
        Check.sentence("SYN without ACK and FIN, without DATA");
        for (int size = 0; size <= 27; size++) {
            Peer p = Peer.known();
            Check.due("SYN with " + size, p.segment(50, 7, SYN, 9, Peer.run(0, size)), 1);
            Check.due("the flags that were sent", p.host.sent(0, 12), size == 0 ? SYN | ACK : RESET);
            Check.due("the state", p.host.stream(0, 0), size == 0 ? OPENING : 0);
        }
    }

    private static void numbersOfResets() {
        Check.sentence("RESET is sent (number ack, ack 0, window 0)");
        int[] acks = {0, 1, 127, 128, 255};
        for (int ack : acks) {
            Peer p = Peer.known();
            p.segment(200, ack, ACK | FIN, 99, 71, 97, 10);
            Check.row("RESET", p.sentPayload(0), 20, ack, 0, RESET, 0);
        }
    }

    private static void numberOfSyn() {
        Check.sentence("NEXT is number + 1 (All numbers are modulo 256)");
        int[] numbers = {0, 1, 127, 254, 255};
        for (int number : numbers) {
            Peer p = Peer.known();
            p.segment(number, 0, SYN, 9);
            Check.due("NEXT after " + number, p.host.stream(0, 3), (number + 1) % 256);
            Check.due("the ack that was sent", p.host.sent(0, 11), (number + 1) % 256);
        }
    }

    private static void firstNumber() {
        Check.sentence("FIRST is 4 times the TICKS, SENT one more (All numbers are modulo 256)");
        int[] ticks = {0, 1, 31, 32, 63, 64, 65, 127, 128};
        for (int n : ticks) {
            Peer p = Peer.known();
            for (int i = 0; i < n; i++) {
                p.host.tick(1);
            }
            p.segment(50, 0, SYN, 9);
            int first = 4 * n % 256;
            Check.row("after " + n, p.streamRow(0), 1, 3, 20, 51, first, first + 1, 0, 0, 9, 1, 0, 0);
            Check.row("SYN + ACK", p.sentPayload(0), 20, first, 51, SYN | ACK, 16);
        }
    }

    private static void resetNumbers() {
        Check.sentence("RESET: with number NEXT the STREAM is gone; else nothing.");
        for (int number = 0; number <= 255; number++) {
            Peer p = Peer.open(9);
            Check.due("RESET with " + number, p.segment(number, 1, RESET | ACK, 7, 10), 0);
            if (number == 51) {
                Check.row("gone", p.streamRow(0), NONE);
            } else {
                Check.row("nothing", p.streamRow(0), 2, 3, 20, 51, 1, 1, 0, 0, 9, 2, 0, 0);
            }
        }
    }

    private static void resetInEveryState() {
        Check.sentence("RESET: with number NEXT the STREAM is gone, in each STATE");
        int[] next = {0, 51, 51, 53, 52};
        for (int state = OPENING; state <= LAST; state++) {
            Peer p = in(state);
            int[] before = p.streamRow(0);
            Check.due("with one less", p.segment(next[state] - 1, 0, RESET, 0), 0);
            Check.due("with one more", p.segment(next[state] + 1, 0, RESET, 0), 0);
            Check.row("nothing", p.streamRow(0), before);
            Check.due("with NEXT", p.segment(next[state], 0, RESET | SYN | ACK | FIN, 0), 0);
            Check.row("gone", p.streamRow(0), NONE);
        }
    }

    private static void synInEveryState() {
        Check.sentence("SYN: ACK is sent, and nothing else changes.");
        int[] next = {0, 51, 51, 53, 52};
        int[] sent = {0, 1, 1, 1, 2};
        for (int state = OPENING; state <= LAST; state++) {
            Peer p = in(state);
            int[] before = p.streamRow(0);
            Check.due("SYN", p.segment(50, 0, SYN, 99), 1);
            Check.row("ACK", p.sentPayload(0), 20, sent[state], next[state], ACK, 16);
            Check.due("SYN with an ack, data and FIN", p.segment(next[state], sent[state], SYN | ACK | FIN, 99, 10), 1);
            Check.row("ACK", p.sentPayload(0), 20, sent[state], next[state], ACK, 16);
            Check.row("nothing else", p.streamRow(0), before);
            Check.due("streams begun", p.host.count(5), 1);
        }
    }

    private static void withoutAckInEveryState() {
        Check.sentence("Without ACK: nothing.");
        int[] next = {0, 51, 51, 53, 52};
        for (int state = OPENING; state <= LAST; state++) {
            Peer p = in(state);
            int[] before = p.streamRow(0);
            Check.due("no flags", p.segment(next[state], before[5], 0, 99), 0);
            Check.due("data", p.segment(next[state], before[5], 0, 99, 10), 0);
            Check.due("FIN", p.segment(next[state], before[5], FIN, 99, 10), 0);
            Check.row("nothing", p.streamRow(0), before);
        }
    }

    private static void acksOfOpening() {
        Check.sentence("if ack - FIRST is 1 up to SENT - FIRST: OPENING");
        for (int ack = 0; ack <= 255; ack++) {
            Peer p = Peer.known();
            p.host.tick(1);
            p.segment(50, 0, SYN, 9);
            Check.due("ack " + ack, p.segment(51, ack, ACK, 7), 0);
            boolean counts = ack == 5;
            int first = counts ? 5 : 4;
            Check.row("stream", p.streamRow(0), counts ? 2 : 1, 3, 20, 51, first, 5, 0, 0, 7, counts ? 2 : 1, 0, 0);
        }
    }

    private static void acksOfOut() {
        Check.sentence("if ack - FIRST is 1 up to SENT - FIRST: OCTETS of OUT");
        for (int ack = 0; ack <= 255; ack++) {
            Peer p = Peer.waiting(18);
            p.segment(54, 1, ACK, 16);
            Check.due("SENT", p.host.stream(0, 5), 17);
            p.segment(54, ack, ACK, 0);
            boolean counts = ack >= 2 && ack <= 17;
            Check.due("FIRST after " + ack, p.host.stream(0, 4), counts ? ack : 1);
            Check.due("OUT after " + ack, p.host.stream(0, 6), counts ? 18 - (ack - 1) : 18);
            Check.due("PACE after " + ack, p.host.stream(0, 9), counts ? 3 : 2);
        }
    }

    private static void acksThatGoRound() {
        Check.sentence("ack - FIRST (All numbers are modulo 256)");
        for (int ack = 0; ack <= 255; ack++) {
            Peer p = Peer.known();
            p.host.tick(40);
            p.host.tick(23);
            p.segment(50, 0, SYN, 9);
            p.text(51, 253, ACK, 9, "\n\n\n");
            Check.due("SENT", p.host.stream(0, 5), 3);
            p.segment(54, ack, ACK, 0);
            int amount = (ack - 253 + 256) % 256;
            boolean counts = amount >= 1 && amount <= 6;
            Check.due("FIRST after " + ack, p.host.stream(0, 4), counts ? ack : 253);
            Check.due("OUT after " + ack, p.host.stream(0, 6), counts ? 6 - amount : 6);
        }
    }

    private static void acksOfNothing() {
        Check.sentence("1 up to SENT - FIRST: nothing is on the way");
        for (int ack = 0; ack <= 255; ack++) {
            Peer p = Peer.open(9);
            Check.due("ack " + ack, p.segment(51, ack, ACK, 7), 0);
            Check.row("stream", p.streamRow(0), 2, 3, 20, 51, 1, 1, 0, 0, 7, 2, 0, 0);
        }
    }

    private static void acknowledgedGoes() {
        Check.sentence("that much is acknowledged (SYN first, then OCTETS of OUT, which go, FIN last)");
        for (int much = 1; much <= 16; much++) {
            Peer p = Peer.waiting(18);
            p.segment(54, 1, ACK, 16);
            p.segment(54, 1 + much, ACK, 255);
            Check.due("SENT after " + much, p.host.stream(0, 5), 19);
            int[] data = Peer.octets("20123456789abcdef\n".substring(16));
            Check.row("what was behind the first 16", p.sentPayload(0), 20, 17, 54, ACK, 16, data[0], data[1]);
            Check.due("OUT", p.host.stream(0, 6), 18 - much);
        }
        Peer p = Peer.waiting(4);
        p.segment(54, 1, ACK | FIN, 9);
        Check.due("LAST", p.host.stream(0, 0), LAST);
        p.segment(55, 4, ACK, 9);
        Check.due("an octet is left before FIN", p.host.stream(0, 6), 1);
        p.segment(55, 5, ACK, 9);
        Check.row("FIN is left", p.streamRow(0), 4, 3, 20, 55, 5, 6, 0, 0, 9, 4, 0, 0);
    }

    private static void paceAtMostFour() {
        Check.sentence("PACE is one more, 4 at most");
        Peer p = Peer.waiting(18);
        p.segment(54, 1, ACK, 8);
        int[] pace = {3, 4, 4, 4};
        for (int i = 0; i < pace.length; i++) {
            p.segment(54, 2 + i, ACK, 0);
            Check.due("PACE after ack " + (2 + i), p.host.stream(0, 9), pace[i]);
        }
        p.segment(54, 5, ACK, 0);
        Check.due("PACE after an ack that does not count", p.host.stream(0, 9), 4);
    }

    private static void lastIfAllIs() {
        Check.sentence("LAST, if all is, is gone, and that is all.");
        for (int much = 0; much <= 4; much++) {
            Peer p = Peer.waiting(2);
            p.segment(54, 1, ACK | FIN, 9);
            Check.row("LAST", p.streamRow(0), 4, 3, 20, 55, 1, 4, 2, 0, 9, 2, 0, 0);
            boolean all = much == 3;
            Check.due("ack of " + much + " with data and FIN", p.segment(55, 1 + much, ACK | FIN, 7, 10), all ? 0 : 1);
            Check.due("the state", p.host.stream(0, 0), all ? 0 : LAST);
            Check.due("IN", p.host.stream(0, 7), 0);
        }
    }

    private static void windowWhateverAck() {
        Check.sentence("WINDOW is what is said (whatever ack is).");
        int[] acks = {0, 1, 2, 128, 255};
        for (int ack : acks) {
            Peer p = Peer.open(9);
            p.segment(51, ack, ACK, 255);
            Check.due("a window of 255", p.host.stream(0, 8), 255);
            p.segment(99, ack, ACK, 0);
            Check.due("a window of 0", p.host.stream(0, 8), 0);
            p.segment(99, ack, 0, 5);
            p.segment(99, ack, SYN, 5);
            p.segment(99, ack, RESET, 5);
            Check.due("of what is not looked at", p.host.stream(0, 8), 0);
        }
        Peer p = in(LAST);
        p.segment(52, 0, ACK, 255);
        Check.due("in LAST", p.host.stream(0, 8), 255);
    }

    private static void openingStill() {
        Check.sentence("If it is OPENING still: nothing more.");
        Peer p = in(OPENING);
        Check.due("data with ack FIRST", p.text(51, 0, ACK, 50, "\n"), 0);
        Check.due("data and FIN with an ack beyond SENT", p.text(51, 2, ACK | FIN, 51, "\n"), 0);
        Check.row("stream", p.streamRow(0), 1, 3, 20, 51, 0, 1, 0, 0, 51, 1, 0, 0);
        Check.due("data with ack SENT", p.text(51, 1, ACK, 52, "\n"), 1);
        Check.row("stream", p.streamRow(0), 2, 3, 20, 52, 1, 3, 2, 0, 52, 2, 0, 0);
    }

    private static void numberIsNext() {
        Check.sentence("If number is NEXT and it is OPEN");
        for (int number = 0; number <= 255; number++) {
            Peer p = Peer.open(9);
            Check.due("number " + number, p.segment(number, 1, ACK, 9, 71), 1);
            Check.due("IN", p.host.stream(0, 7), number == 51 ? 1 : 0);
            Check.due("NEXT", p.host.stream(0, 3), number == 51 ? 52 : 51);
            Check.due("the ack that was sent", p.host.sent(0, 11), number == 51 ? 52 : 51);
        }
    }

    private static void nextGoesRound() {
        Check.sentence("NEXT is so much more; if there is FIN, NEXT is one more (All numbers are modulo 256)");
        Peer p = Peer.known();
        p.segment(250, 0, SYN, 9);
        p.text(251, 1, ACK, 9, "Gaaaa");
        Check.due("NEXT", p.host.stream(0, 3), 0);
        Check.due("the ack that was sent", p.host.sent(0, 11), 0);
        p.text(0, 1, ACK, 9, "\n");
        Check.due("NEXT", p.host.stream(0, 3), 1);
        Peer q = Peer.known();
        q.segment(254, 0, SYN, 0);
        q.segment(255, 1, ACK | FIN, 0);
        Check.row("FIN", q.streamRow(0), 4, 3, 20, 0, 1, 2, 0, 0, 0, 2, 0, 0);
        Peer r = Peer.known();
        r.segment(252, 0, SYN, 0);
        r.text(253, 1, ACK | FIN, 0, "\n\nG");
        Check.row("data and FIN", r.streamRow(0), 3, 3, 20, 1, 1, 1, 4, 1, 0, 2, 0, 0);
        r.segment(1, 1, RESET, 0);
        Check.row("RESET with NEXT behind it", r.streamRow(0), NONE);
    }

    private static void roomInIn() {
        Check.sentence("as much DATA as IN has room for comes to IN, NEXT is so much more");
        for (int size = 1; size <= 18; size++) {
            Peer p = Peer.full();
            Check.due("OUT", p.host.stream(0, 6), 64);
            int taken = Math.min(size, 16);
            Check.due(size + " octets", p.text(83, 1, ACK, 0, "\n".repeat(size)), 1);
            Check.row("ACK", p.sentPayload(0), 20, 1, 83 + taken, ACK, 16 - taken);
            Check.due("IN", p.host.stream(0, 7), taken);
            p.text(83 + taken, 1, ACK, 0, "\n".repeat(3));
            int both = Math.min(taken + 3, 16);
            Check.row("stream", p.streamRow(0), 2, 3, 20, 83 + both, 1, 1, 64, both, 0, 2, 0, 0);
        }
    }

    private static void finBehindWhatFits() {
        Check.sentence("if all did, and there is FIN, NEXT is one more, and it is CLOSING");
        for (int size = 14; size <= 18; size++) {
            Peer p = Peer.full();
            Check.due(size + " octets and FIN", p.text(83, 1, ACK | FIN, 0, "\n".repeat(size)), 1);
            boolean all = size <= 16;
            int next = all ? 84 + size : 99;
            Check.row("stream", p.streamRow(0), all ? 3 : 2, 3, 20, next, 1, 1, 64, Math.min(size, 16), 0, 2, 0, 0);
            Check.due("the ack that was sent", p.host.sent(0, 11), next);
        }
    }

    private static void finWithFullIn() {
        Check.sentence("if all did, and there is FIN: no DATA, and IN is full");
        Peer p = Peer.full();
        p.text(83, 1, ACK, 0, "\n".repeat(16));
        Check.due("an octet and FIN", p.text(99, 1, ACK | FIN, 0, "\n"), 1);
        Check.row("stream", p.streamRow(0), 2, 3, 20, 99, 1, 1, 64, 16, 0, 2, 0, 0);
        Check.due("FIN", p.segment(99, 1, ACK | FIN, 0), 1);
        Check.row("stream", p.streamRow(0), 3, 3, 20, 100, 1, 1, 64, 16, 0, 2, 0, 0);
        Check.row("ACK", p.sentPayload(0), 20, 1, 100, ACK, 0);
    }

    private static void finWithWrongNumber() {
        Check.sentence("if number is NEXT: FIN");
        for (int number = 49; number <= 53; number++) {
            Peer p = Peer.open(9);
            Check.due("FIN with " + number, p.segment(number, 1, ACK | FIN, 9), 1);
            Check.due("the state", p.host.stream(0, 0), number == 51 ? LAST : OPEN);
            Check.due("the flags that were sent", p.host.sent(0, 12), number == 51 ? FIN | ACK : ACK);
            Check.due("the ack that was sent", p.host.sent(0, 11), number == 51 ? 52 : 51);
        }
    }

    private static void ackForDataOrFin() {
        Check.sentence("if there was DATA or FIN (also if number was not NEXT, or it was not OPEN), ACK is sent");
        int[] next = {0, 51, 51, 53, 52};
        int[] sent = {0, 1, 1, 1, 2};
        for (int state = OPEN; state <= LAST; state++) {
            for (int off = -1; off <= 1; off++) {
                Peer p = in(state);
                boolean taken = state == OPEN && off == 0;
                Check.due("neither", p.segment(next[state] + off, 0, ACK, 0), 0);
                if (!taken) {
                    Check.due("FIN", p.segment(next[state] + off, 0, ACK | FIN, 0), 1);
                    Check.row("ACK", p.sentPayload(0), 20, sent[state], next[state], ACK, 16);
                }
                Check.due("data", p.segment(next[state] + off, 0, ACK, 0, 71), 1);
                int now = taken ? next[state] + 1 : next[state];
                Check.row("ACK", p.sentPayload(0), 20, sent[state], now, ACK, taken ? 15 : 16);
                Check.due("the state", p.host.stream(0, 0), state);
                Check.due("NEXT", p.host.stream(0, 3), now);
            }
        }
    }

    private static void ackUnlessPushed() {
        Check.sentence("ACK is sent if PUSHING sent nothing");
        Peer p = Peer.open(2);
        Check.due("data that is answered", p.text(51, 1, ACK, 2, "\n"), 1);
        Check.row("the answer", p.sentPayload(0), 20, 1, 52, ACK, 16, 48, 10);
        Check.due("data at a window that is used up", p.text(52, 1, ACK, 2, "\n"), 1);
        Check.row("ACK", p.sentPayload(0), 20, 3, 53, ACK, 16);
        Check.due("data with a wrong number, and an ack that makes room", p.text(52, 3, ACK, 2, "\n"), 1);
        Check.row("what waited", p.sentPayload(0), 20, 3, 53, ACK, 16, 48, 10);
        Peer q = Peer.open(0);
        Check.due("FIN", q.segment(51, 1, ACK | FIN, 0), 1);
        Check.due("the flags that were sent", q.host.sent(0, 12), FIN | ACK);
    }

    private static void goneAndBegunAnew() {
        Check.sentence("OUT and IN empty, PACE 1, TRIES 0, WINDOW as said");
        Peer p = Peer.open(50);
        p.text(51, 1, ACK, 50, "\n\nGab");
        p.host.tick(6);
        Check.row("stream", p.streamRow(0), 2, 3, 20, 56, 1, 5, 4, 3, 50, 1, 1, 2);
        p.segment(56, 0, RESET, 0);
        p.segment(99, 0, SYN, 0);
        Check.row("begun anew", p.streamRow(0), 1, 3, 20, 100, 24, 25, 0, 0, 0, 1, 0, 0);
        p.segment(100, 25, ACK, 255);
        Check.row("nothing is left to be sent", p.streamRow(0), 2, 3, 20, 100, 25, 25, 0, 0, 255, 2, 0, 0);
        Check.due("an end alone is a line of its own", p.text(100, 25, ACK, 255, "\n"), 1);
        Check.row("its answer", p.sentPayload(0), 20, 25, 101, ACK, 16, 48, 10);
    }
}
