/** Promise 11, and what segments do by promise 3: streams opened, read, answered and closed. */
public final class StreamTest {
    private static final int FIN = Peer.FIN, SYN = Peer.SYN, RESET = Peer.RESET, ACK = Peer.ACK;

    public static void main(String[] args) {
        opening();
        withoutStream();
        otherFlags();
        threeStreams();
        resets();
        synAgain();
        withoutAck();
        acksWhileOpening();
        dataWithTheFirstAck();
        wrongNumbers();
        windows();
        shrunkenWindow();
        fullRows();
        lastAcks();
        lineWithoutRoom();
        nothingIsLeft();
        closingAtOnce();
        unfinishedLine();
        closingKeepsOut();
        goingRound();
        unknownAddress();
        outOfRange();
        Check.end();
    }

    private static final int[] NONE = new int[12];

    private static void opening() {
        Peer p = Peer.known();
        p.host.tick(35);
        p.host.tick(35);
        Check.due("SYN", p.segment(255, 99, SYN, 9), 1);
        Check.row("SYN + ACK", p.sentFrame(0), 3, 1, 3, 1, 3, 0, 0, 6, 256 - 88, 20, 24, 0, 18, 16);
        Check.row("stream", p.streamRow(0), 1, 3, 20, 0, 24, 25, 0, 0, 9, 1, 0, 0);
        Check.due("streams begun", p.host.count(5), 1);
        Check.due("ACK", p.segment(0, 25, ACK, 200), 0);
        Check.row("stream", p.streamRow(0), 2, 3, 20, 0, 25, 25, 0, 0, 200, 2, 0, 0);
    }

    private static void withoutStream() {
        Peer p = Peer.known();
        Check.due("RESET", p.segment(1, 2, RESET, 3), 0);
        Check.due("RESET + SYN", p.segment(1, 2, RESET | SYN, 3), 0);
        Check.due("RESET + ACK with data", p.segment(1, 2, RESET | ACK, 3, 1, 2), 0);
        int[] flags = {0, FIN, ACK, FIN | ACK, SYN | ACK, SYN | FIN, SYN | ACK | FIN};
        for (int f : flags) {
            Check.due("flags " + f, p.segment(1, 77, f, 3), 1);
            Check.row("answered by RESET", p.sentPayload(0), 20, 77, 0, 4, 0);
        }
        Check.due("SYN with data", p.segment(1, 78, SYN, 3, 65), 1);
        Check.row("answered by RESET", p.sentPayload(0), 20, 78, 0, 4, 0);
        Check.due("streams begun", p.host.count(5), 0);
        Check.row("no stream", p.streamRow(0), NONE);
    }

    private static void otherFlags() {
        Peer p = Peer.known();
        Check.due("SYN with flags that are not looked at", p.segment(1, 2, 255 - FIN - RESET - ACK, 3), 1);
        Check.row("SYN + ACK", p.sentPayload(0), 20, 0, 2, 18, 16);
        Check.due("ACK with them", p.segment(2, 1, 255 - FIN - RESET - SYN, 3), 0);
        Check.due("open", p.host.stream(0, 0), 2);
    }

    private static void threeStreams() {
        Peer p = Peer.known();
        for (int port = 0; port < 3; port++) {
            p.port = port * 100;
            p.segment(10 + port, 0, SYN, 5);
            Check.due("port of " + port, p.host.stream(port, 2), port * 100);
        }
        p.port = 7;
        Check.due("a fourth", p.segment(1, 66, SYN, 5), 1);
        Check.row("is not taken", p.sentPayload(0), 7, 66, 0, 4, 0);
        p.port = 100;
        Check.due("the second is reset", p.segment(12, 0, RESET, 0), 0);
        Check.row("and gone", p.streamRow(1), NONE);
        p.address = 9;
        p.port = 0;
        Check.due("the same port of another address", p.segment(1, 0, SYN, 5), 1);
        Check.row("the free one is taken", p.streamRow(1), 1, 9, 0, 2, 0, 1, 0, 0, 5, 1, 0, 0);
        Check.due("the first is another one", p.host.stream(0, 3), 11);
        p.segment(2, 1, ACK, 5);
        Check.due("its states are its own", p.host.stream(1, 0), 2);
        Check.due("the first is opening still", p.host.stream(0, 0), 1);
        Check.due("streams begun", p.host.count(5), 4);
    }

    private static void resets() {
        Peer p = Peer.open(30);
        Check.due("RESET with another number", p.segment(50, 1, RESET, 0), 0);
        Check.due("RESET with another number", p.segment(52, 1, RESET | ACK | FIN, 0), 0);
        Check.row("nothing changes", p.streamRow(0), 2, 3, 20, 51, 1, 1, 0, 0, 30, 2, 0, 0);
        Check.due("RESET with NEXT", p.segment(51, 9, RESET | SYN, 0), 0);
        Check.row("it is gone", p.streamRow(0), NONE);
        p.segment(7, 0, SYN, 8);
        Check.row("a new one has nothing of it", p.streamRow(0), 1, 3, 20, 8, 0, 1, 0, 0, 8, 1, 0, 0);
    }

    private static void synAgain() {
        Peer p = Peer.known();
        p.segment(50, 0, SYN, 30);
        p.host.tick(2);
        Check.due("SYN while opening", p.segment(50, 0, SYN, 99), 1);
        Check.row("ACK", p.sentPayload(0), 20, 1, 51, 16, 16);
        Check.row("nothing changes", p.streamRow(0), 1, 3, 20, 51, 0, 1, 0, 0, 30, 1, 0, 2);
        p.segment(51, 1, ACK, 30);
        Check.due("SYN + ACK + FIN with data", p.segment(51, 1, SYN | ACK | FIN, 99, 71, 10), 1);
        Check.row("ACK", p.sentPayload(0), 20, 1, 51, 16, 16);
        Check.row("nothing changes", p.streamRow(0), 2, 3, 20, 51, 1, 1, 0, 0, 30, 2, 0, 0);
    }

    private static void withoutAck() {
        Peer p = Peer.open(30);
        Check.due("data without ACK", p.segment(51, 1, 0, 99, 71, 10), 0);
        Check.due("FIN without ACK", p.segment(51, 1, FIN, 99), 0);
        Check.row("nothing changes", p.streamRow(0), 2, 3, 20, 51, 1, 1, 0, 0, 30, 2, 0, 0);
    }

    private static void acksWhileOpening() {
        Peer p = Peer.known();
        p.segment(50, 0, SYN, 30);
        Check.due("ack of FIRST", p.segment(51, 0, ACK, 31, 71, 10), 0);
        Check.row("only WINDOW changes", p.streamRow(0), 1, 3, 20, 51, 0, 1, 0, 0, 31, 1, 0, 0);
        Check.due("ack beyond SENT", p.segment(51, 2, ACK | FIN, 32), 0);
        Check.row("only WINDOW changes", p.streamRow(0), 1, 3, 20, 51, 0, 1, 0, 0, 32, 1, 0, 0);
        Check.due("ack before FIRST", p.segment(51, 255, ACK, 33), 0);
        Check.row("only WINDOW changes", p.streamRow(0), 1, 3, 20, 51, 0, 1, 0, 0, 33, 1, 0, 0);
    }

    private static void dataWithTheFirstAck() {
        Peer p = Peer.known();
        p.segment(50, 0, SYN, 0);
        Check.due("ack, data and FIN", p.text(51, 1, ACK | FIN, 50, "\n"), 2);
        Check.row("the answer", p.sentPayload(1), 20, 1, 53, 16, 16, 48, 10);
        Check.row("FIN", p.sentPayload(0), 20, 3, 53, 17, 16);
        Check.row("stream", p.streamRow(0), 4, 3, 20, 53, 1, 4, 2, 0, 50, 2, 0, 0);
    }

    private static void wrongNumbers() {
        Peer p = Peer.open(30);
        Check.due("data before NEXT", p.text(50, 1, ACK, 31, "\n"), 1);
        Check.row("ACK", p.sentPayload(0), 20, 1, 51, 16, 16);
        Check.due("data behind NEXT", p.text(52, 1, ACK, 32, "\n"), 1);
        Check.due("FIN behind NEXT", p.segment(52, 1, ACK | FIN, 33), 1);
        Check.row("ACK", p.sentPayload(0), 20, 1, 51, 16, 16);
        Check.due("nothing behind NEXT", p.segment(52, 1, ACK, 34), 0);
        Check.row("nothing was taken", p.streamRow(0), 2, 3, 20, 51, 1, 1, 0, 0, 34, 2, 0, 0);
        Check.due("part of a line", p.text(51, 1, ACK, 35, "Gab"), 1);
        Check.row("ACK with a lesser window", p.sentPayload(0), 20, 1, 54, 16, 13);
        Check.row("it was taken", p.streamRow(0), 2, 3, 20, 54, 1, 1, 0, 3, 35, 2, 0, 0);
    }

    private static void windows() {
        Peer p = Peer.open(3);
        p.store(0, "a", "0123456789");
        Check.due("a window of 3", p.text(51, 1, ACK, 3, "Ga\n"), 1);
        Check.row("3 octets", p.sentPayload(0), 20, 1, 54, 16, 16, 50, '0', '1');
        Check.due("a window of 3 still", p.segment(54, 1, ACK, 3), 0);
        Check.due("a window of 4", p.segment(54, 1, ACK, 4), 1);
        Check.row("1 octet", p.sentPayload(0), 20, 4, 54, 16, 16, '2');
        Check.due("2 acknowledged", p.segment(54, 3, ACK, 4), 1);
        Check.row("2 octets", p.sentPayload(0), 20, 5, 54, 16, 16, '3', '4');
        Check.row("stream", p.streamRow(0), 2, 3, 20, 54, 3, 7, 10, 0, 4, 3, 0, 0);
        Check.due("a window of 255", p.segment(54, 3, ACK, 255), 1);
        Check.row("the rest", p.sentPayload(0), 20, 7, 54, 16, 16, '5', '6', '7', '8', '9', 10);
        Check.due("all acknowledged", p.segment(54, 13, ACK, 255), 0);
        Check.row("stream", p.streamRow(0), 2, 3, 20, 54, 13, 13, 0, 0, 255, 4, 0, 0);
        Check.due("PACE is 4 at most", p.text(54, 13, ACK, 255, "\n"), 1);
        p.segment(55, 15, ACK, 255);
        Check.due("PACE", p.host.stream(0, 9), 4);
    }

    private static void shrunkenWindow() {
        Peer p = Peer.open(100);
        p.store(0, "a", "0123456789abcdef");
        Check.due("16 octets of 36", p.text(51, 1, ACK, 100, "Ga\nGa\n"), 2);
        Check.due("a window of 4, 8 acknowledged", p.segment(57, 9, ACK, 4), 0);
        Check.row("stream", p.streamRow(0), 2, 3, 20, 57, 9, 17, 28, 0, 4, 3, 0, 0);
        Check.due("a window of 9", p.segment(57, 9, ACK, 9), 1);
        Check.row("1 octet", p.sentPayload(0), 20, 17, 57, 16, 16, 'f');
        Check.due("a window of 255: PACE sets the bound", p.segment(57, 9, ACK, 255), 2);
        Check.row("7 more up to 24", p.sentPayload(0), 20, 26, 57, 16, 16, '6', '7', '8', '9', 'a', 'b', 'c');
        Check.row("8 before these", p.sentPayload(1), 20, 18, 57, 16, 16, 10, 50, '0', '1', '2', '3', '4', '5');
    }

    private static void fullRows() {
        Peer p = Peer.open(0);
        Check.due("16 lines", p.text(51, 1, ACK, 0, "\n".repeat(16)), 1);
        Check.due("OUT", p.host.stream(0, 6), 32);
        Check.due("16 more", p.text(67, 1, ACK, 0, "\n".repeat(16)), 1);
        Check.due("OUT is full", p.host.stream(0, 6), 64);
        Check.due("10 more", p.text(83, 1, ACK, 0, "\n".repeat(10)), 1);
        Check.row("ACK", p.sentPayload(0), 20, 1, 93, 16, 6);
        Check.due("7 more and FIN", p.text(93, 1, ACK | FIN, 0, "\n".repeat(7)), 1);
        Check.row("6 are taken, FIN is not", p.sentPayload(0), 20, 1, 99, 16, 0);
        Check.row("stream", p.streamRow(0), 2, 3, 20, 99, 1, 1, 64, 16, 0, 2, 0, 0);
        Check.due("1 more and FIN", p.text(99, 1, ACK | FIN, 0, "\n"), 1);
        Check.due("is not taken", p.host.stream(0, 3), 99);
        Check.due("FIN alone", p.segment(99, 1, ACK | FIN, 0), 1);
        Check.row("is taken", p.streamRow(0), 3, 3, 20, 100, 1, 1, 64, 16, 0, 2, 0, 0);
        Check.row("ACK", p.sentPayload(0), 20, 1, 100, 16, 0);
        Check.due("lines answered", p.host.count(6), 32);
        Check.due("a window of 255", p.segment(100, 1, ACK, 255), 2);
        Check.due("16 acknowledged", p.segment(100, 17, ACK, 255), 3);
        Check.row("8 lines read", p.streamRow(0), 3, 3, 20, 100, 17, 41, 64, 8, 255, 3, 0, 0);
        Check.due("window of what was sent", p.host.sent(0, 13), 8);
        Check.due("24 acknowledged", p.segment(100, 41, ACK, 255), 4);
        Check.row("8 lines read", p.streamRow(0), 3, 3, 20, 100, 41, 73, 56, 0, 255, 4, 0, 0);
        Check.due("32 acknowledged", p.segment(100, 73, ACK, 255), 4);
        Check.row("FIN is sent", p.sentPayload(0), 20, 97, 100, 17, 16);
        Check.row("LAST", p.streamRow(0), 4, 3, 20, 100, 73, 98, 24, 0, 255, 4, 0, 0);
        Check.due("lines answered", p.host.count(6), 48);
    }

    private static void lastAcks() {
        Peer p = Peer.open(50);
        p.text(51, 1, ACK | FIN, 50, "\n\n");
        Check.row("LAST", p.streamRow(0), 4, 3, 20, 54, 1, 6, 4, 0, 50, 2, 0, 0);
        Check.due("part of OUT", p.segment(54, 3, ACK, 40), 0);
        Check.row("goes", p.streamRow(0), 4, 3, 20, 54, 3, 6, 2, 0, 40, 3, 0, 0);
        Check.due("all but FIN", p.segment(54, 5, ACK, 41), 0);
        Check.row("goes", p.streamRow(0), 4, 3, 20, 54, 5, 6, 0, 0, 41, 4, 0, 0);
        Check.due("the other FIN again", p.segment(53, 5, ACK | FIN, 42), 1);
        Check.row("ACK", p.sentPayload(0), 20, 6, 54, 16, 16);
        Check.due("data in LAST", p.text(54, 5, ACK, 43, "\n"), 1);
        Check.row("are not taken", p.streamRow(0), 4, 3, 20, 54, 5, 6, 0, 0, 43, 4, 0, 0);
        Check.due("beyond FIN", p.segment(54, 7, ACK, 44), 0);
        Check.due("LAST still", p.host.stream(0, 0), 4);
        Check.due("FIN acknowledged, with data", p.text(54, 6, ACK | FIN, 45, "\n"), 0);
        Check.row("gone", p.streamRow(0), NONE);
        Check.due("then there is no stream", p.segment(54, 6, ACK, 45), 1);
        Check.row("RESET", p.sentPayload(0), 20, 6, 0, 4, 0);
    }

    private static void lineWithoutRoom() {
        Peer p = Peer.open(0);
        p.store(0, "a", "x");
        p.text(51, 1, ACK, 0, "\n".repeat(16));
        p.text(67, 1, ACK, 0, "\n".repeat(15));
        Check.due("OUT", p.host.stream(0, 6), 62);
        Check.due("an answer of 3, and one of 2 behind it", p.text(82, 1, ACK, 0, "Ga\n\n"), 1);
        Check.row("both wait", p.streamRow(0), 2, 3, 20, 86, 1, 1, 62, 4, 0, 2, 0, 0);
        p.host.erase(0);
        Check.due("without the text", p.segment(86, 1, ACK, 0), 0);
        Check.row("one has room", p.streamRow(0), 2, 3, 20, 86, 1, 1, 64, 1, 0, 2, 0, 0);
    }

    private static void nothingIsLeft() {
        Peer p = Peer.open(50);
        p.text(51, 1, ACK, 50, "\n\nGab");
        p.host.tick(6);
        Check.row("stream", p.streamRow(0), 2, 3, 20, 56, 1, 5, 4, 3, 50, 1, 1, 2);
        p.segment(56, 1, RESET, 50);
        p.segment(56, 1, SYN, 9);
        Check.row("a new one has nothing of it", p.streamRow(0), 1, 3, 20, 57, 24, 25, 0, 0, 9, 1, 0, 0);
    }

    private static void closingAtOnce() {
        Peer p = Peer.open(0);
        Check.due("FIN at a window of 0", p.segment(51, 1, ACK | FIN, 0), 1);
        Check.row("FIN + ACK", p.sentPayload(0), 20, 1, 52, 17, 16);
        Check.row("LAST", p.streamRow(0), 4, 3, 20, 52, 1, 2, 0, 0, 0, 2, 0, 0);
        Check.due("acknowledged", p.segment(52, 2, ACK, 0), 0);
        Check.row("gone", p.streamRow(0), NONE);
    }

    private static void unfinishedLine() {
        Peer p = Peer.open(20);
        Check.due("a line, part of one, FIN", p.text(51, 1, ACK | FIN, 20, "\nGabcd"), 2);
        Check.row("the answer has the lesser window", p.sentPayload(1), 20, 1, 58, 16, 11, 48, 10);
        Check.row("FIN has the whole one", p.sentPayload(0), 20, 3, 58, 17, 16);
        Check.due("what had no end is lost", p.host.stream(0, 7), 0);
        Check.due("lines answered", p.host.count(6), 1);
    }

    private static void closingKeepsOut() {
        Peer p = Peer.open(0);
        Check.due("a line and FIN at a window of 0", p.text(51, 1, ACK | FIN, 0, "\nG"), 1);
        Check.row("ACK", p.sentPayload(0), 20, 1, 54, 16, 15);
        Check.row("CLOSING", p.streamRow(0), 3, 3, 20, 54, 1, 1, 2, 1, 0, 2, 0, 0);
        Check.due("data in CLOSING", p.text(54, 1, ACK, 0, "\n"), 1);
        Check.due("are not taken", p.host.stream(0, 7), 1);
        Check.due("a window of 1", p.segment(54, 1, ACK, 1), 1);
        Check.row("CLOSING still", p.streamRow(0), 3, 3, 20, 54, 1, 2, 2, 1, 1, 2, 0, 0);
        Check.due("a window of 2", p.segment(54, 1, ACK, 2), 2);
        Check.row("LAST", p.streamRow(0), 4, 3, 20, 54, 1, 4, 2, 0, 2, 2, 0, 0);
    }

    private static void goingRound() {
        Peer p = Peer.known();
        p.host.tick(40);
        p.host.tick(23);
        p.segment(253, 0, SYN, 30);
        Check.row("stream", p.streamRow(0), 1, 3, 20, 254, 252, 253, 0, 0, 30, 1, 0, 0);
        Check.due("three lines", p.text(254, 253, ACK, 30, "\n\n\n"), 1);
        Check.row("numbers go round", p.sentPayload(0), 20, 253, 1, 16, 16, 48, 10, 48, 10, 48, 10);
        Check.row("stream", p.streamRow(0), 2, 3, 20, 1, 253, 3, 6, 0, 30, 2, 0, 0);
        Check.due("an ack beyond SENT", p.segment(1, 4, ACK, 30), 0);
        Check.due("does not count", p.host.stream(0, 4), 253);
        Check.due("an ack at 0", p.segment(1, 0, ACK, 30), 0);
        Check.row("stream", p.streamRow(0), 2, 3, 20, 1, 0, 3, 3, 0, 30, 3, 0, 0);
        Peer q = Peer.known();
        q.segment(254, 0, SYN, 30);
        q.segment(255, 1, ACK | FIN, 30);
        Check.row("FIN goes round", q.streamRow(0), 4, 3, 20, 0, 1, 2, 0, 0, 30, 2, 0, 0);
    }

    private static void unknownAddress() {
        Peer p = new Peer(new WireHost());
        Check.due("SYN", p.segment(50, 0, SYN, 30), 1);
        Check.row("ASK", p.sentFrame(0), 15, 1, 1, 1, 3);
        Check.row("it is opening", p.streamRow(0), 1, 3, 20, 51, 0, 1, 0, 0, 30, 1, 0, 0);
        Check.due("a line", p.text(51, 1, ACK, 30, "\n"), 1);
        Check.row("ASK", p.sentFrame(0), 15, 1, 1, 1, 3);
        Check.row("what was lost is on the way", p.streamRow(0), 2, 3, 20, 52, 1, 3, 2, 0, 30, 2, 0, 0);
        p.frame(1, 8, 2, 3, 1);
        Check.due("sent anew", p.host.tick(4), 1);
        Check.row("now as it should be", p.sentFrame(0), 8, 1, 3, 1, 3, 0, 0, 6, 256 - 173, 20, 1, 52, 16, 16, 48, 10);
    }

    private static void outOfRange() {
        Peer p = Peer.open(3);
        for (int s = 0; s < 3; s++) {
            Check.due("stream(" + s + ", -1)", p.host.stream(s, -1), -1);
            Check.due("stream(" + s + ", 12)", p.host.stream(s, 12), -1);
            Check.due("stream(" + s + ", int min)", p.host.stream(s, Integer.MIN_VALUE), -1);
        }
        Check.due("stream(-1, 0)", p.host.stream(-1, 0), -1);
        Check.due("stream(3, 0)", p.host.stream(3, 0), -1);
        Check.due("stream(int max, 0)", p.host.stream(Integer.MAX_VALUE, 0), -1);
    }
}
