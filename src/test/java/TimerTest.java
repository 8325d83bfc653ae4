/** Promises 4 and 14: ticks, timers and what is sent anew. */
public final class TimerTest {
    private static final int FIN = Peer.FIN, SYN = Peer.SYN, ACK = Peer.ACK;
    private static final int[] NONE = new int[12];

    public static void main(String[] args) {
        ticks();
        openingAgain();
        dataAgain();
        paceAndOldAcks();
        windowOfNone();
        finAgain();
        finWithOut();
        finHeldBack();
        acksBeginAnew();
        moreDataDoesNotBegin();
        otherSendingsDoNotBegin();
        byNumbers();
        giveUpToUnknown();
        nothingOnTheWay();
        droppedArriveToo();
        Check.end();
    }

    private static void ticks() {
        WireHost h = new WireHost();
        Check.due("tick(0)", h.tick(0), -1);
        Check.due("tick(-1)", h.tick(-1), -1);
        Check.due("tick(41)", h.tick(41), -1);
        Check.due("tick(int min)", h.tick(Integer.MIN_VALUE), -1);
        Check.due("tick(int max)", h.tick(Integer.MAX_VALUE), -1);
        Check.due("no time went by", h.count(0), 0);
        Check.due("tick(1)", h.tick(1), 0);
        Check.due("tick(40)", h.tick(40), 0);
        Check.due("count(0)", h.count(0), 41);
    }

    private static void openingAgain() {
        Peer p = Peer.known();
        p.host.tick(1);
        p.segment(50, 0, SYN, 30);
        Check.due("3 ticks", p.host.tick(3), 0);
        Check.row("stream", p.streamRow(0), 1, 3, 20, 51, 4, 5, 0, 0, 30, 1, 0, 3);
        Check.due("the fourth", p.host.tick(1), 1);
        Check.row("SYN + ACK", p.sentPayload(0), 20, 4, 51, 18, 16);
        Check.row("stream", p.streamRow(0), 1, 3, 20, 51, 4, 5, 0, 0, 30, 1, 1, 0);
        Check.due("7 ticks", p.host.tick(7), 0);
        Check.due("the eighth", p.host.tick(1), 1);
        Check.due("15 ticks", p.host.tick(15), 0);
        Check.due("the sixteenth", p.host.tick(1), 1);
        Check.row("stream", p.streamRow(0), 1, 3, 20, 51, 4, 5, 0, 0, 30, 1, 3, 0);
        Check.due("31 ticks", p.host.tick(31), 0);
        Check.due("timer", p.host.stream(0, 11), 31);
        Check.due("the last one", p.host.tick(1), 1);
        Check.row("RESET", p.sentPayload(0), 20, 5, 0, 4, 0);
        Check.row("gone", p.streamRow(0), NONE);
        Check.due("sent anew", p.host.count(8), 3);
        Check.due("nothing more", p.host.tick(40), 0);
    }

    private static void dataAgain() {
        Peer p = Peer.open(30);
        p.text(51, 1, ACK, 30, "\nGx");
        Check.due("40 ticks", p.host.tick(40), 3);
        Check.row("the same anew", p.sentPayload(0), 20, 1, 54, 16, 14, 48, 10);
        Check.row("stream", p.streamRow(0), 2, 3, 20, 54, 1, 3, 2, 2, 30, 1, 3, 12);
        Check.due("an ack", p.segment(54, 3, ACK, 30), 0);
        Check.row("stream", p.streamRow(0), 2, 3, 20, 54, 3, 3, 0, 2, 30, 2, 0, 0);
        Check.due("sent anew", p.host.count(8), 3);
    }

    private static void paceAndOldAcks() {
        Peer p = Peer.open(100);
        p.store(0, "a", "0123456789abcdef");
        p.text(51, 1, ACK, 100, "Ga\n");
        Check.due("16 on the way", p.host.stream(0, 5), 17);
        Check.due("4 ticks", p.host.tick(4), 1);
        Check.row("8 on the way", p.streamRow(0), 2, 3, 20, 54, 1, 9, 18, 0, 100, 1, 1, 0);
        Check.due("an ack beyond SENT", p.segment(54, 17, ACK, 100), 0);
        Check.row("does not count", p.streamRow(0), 2, 3, 20, 54, 1, 9, 18, 0, 100, 1, 1, 0);
        Check.due("one up to SENT", p.segment(54, 9, ACK, 100), 2);
        Check.row("does", p.streamRow(0), 2, 3, 20, 54, 9, 19, 10, 0, 100, 2, 0, 0);
    }

    private static void windowOfNone() {
        Peer p = Peer.open(30);
        p.text(51, 1, ACK, 30, "\n");
        p.segment(52, 1, ACK, 0);
        p.host.tick(3);
        Check.due("nothing can be sent", p.host.tick(1), 0);
        Check.row("stream", p.streamRow(0), 2, 3, 20, 52, 1, 1, 2, 0, 0, 1, 1, 0);
        Check.due("it counts", p.host.count(8), 1);
        Check.due("nothing is on the way", p.host.tick(40), 0);
        Check.due("timer", p.host.stream(0, 11), 0);
        Check.due("it counts no more", p.host.count(8), 1);
        Check.due("a window again", p.segment(52, 1, ACK, 1), 1);
        Check.row("stream", p.streamRow(0), 2, 3, 20, 52, 1, 2, 2, 0, 1, 1, 1, 0);
        Check.due("7 ticks", p.host.tick(7), 0);
        Check.due("the eighth", p.host.tick(1), 1);
        Check.due("TRIES", p.host.stream(0, 10), 2);
    }

    private static void finAgain() {
        Peer p = Peer.open(0);
        p.segment(51, 1, ACK | FIN, 0);
        Check.due("4 ticks", p.host.tick(4), 1);
        Check.row("FIN + ACK", p.sentPayload(0), 20, 1, 52, 17, 16);
        Check.row("LAST", p.streamRow(0), 4, 3, 20, 52, 1, 2, 0, 0, 0, 1, 1, 0);
        Check.due("8 + 16 ticks", p.host.tick(24), 2);
        Check.due("32 ticks", p.host.tick(32), 1);
        Check.row("RESET", p.sentPayload(0), 20, 2, 0, 4, 0);
        Check.row("gone", p.streamRow(0), NONE);
    }

    private static void finWithOut() {
        Peer p = Peer.open(100);
        p.store(0, "a", "01234567");
        p.text(51, 1, ACK | FIN, 100, "Ga\n");
        Check.row("LAST", p.streamRow(0), 4, 3, 20, 55, 1, 12, 10, 0, 100, 2, 0, 0);
        Check.due("4 ticks", p.host.tick(4), 1);
        Check.row("CLOSING again", p.streamRow(0), 3, 3, 20, 55, 1, 9, 10, 0, 100, 1, 1, 0);
        Check.due("8 acknowledged", p.segment(55, 9, ACK, 100), 2);
        Check.row("the rest", p.sentPayload(1), 20, 9, 55, 16, 16, '7', 10);
        Check.row("FIN + ACK", p.sentPayload(0), 20, 11, 55, 17, 16);
        Check.row("LAST", p.streamRow(0), 4, 3, 20, 55, 9, 12, 2, 0, 100, 2, 0, 0);
        Check.due("4 ticks", p.host.tick(4), 2);
        Check.due("LAST", p.host.stream(0, 0), 4);
        Check.due("all acknowledged", p.segment(55, 12, ACK, 100), 0);
        Check.row("gone", p.streamRow(0), NONE);
    }

    private static void finHeldBack() {
        Peer p = Peer.open(100);
        p.text(51, 1, ACK | FIN, 100, "\n");
        p.segment(53, 1, ACK, 0);
        Check.due("a window of 0 in LAST", p.host.stream(0, 8), 0);
        Check.due("4 ticks", p.host.tick(4), 0);
        Check.row("CLOSING again", p.streamRow(0), 3, 3, 20, 53, 1, 1, 2, 0, 0, 1, 1, 0);
        Check.due("it counts", p.host.count(8), 1);
        Check.due("the other FIN again", p.segment(52, 1, ACK | FIN, 0), 1);
        Check.row("ACK", p.sentPayload(0), 20, 1, 53, 16, 16);
        Check.due("a window again", p.segment(53, 1, ACK, 9), 2);
        Check.row("LAST", p.streamRow(0), 4, 3, 20, 53, 1, 4, 2, 0, 9, 1, 1, 0);
    }

    private static void acksBeginAnew() {
        Peer p = Peer.open(100);
        p.text(51, 1, ACK, 100, "\n");
        p.host.tick(3);
        Check.due("timer", p.host.stream(0, 11), 3);
        Check.due("an ack that does not count", p.segment(52, 1, ACK, 100), 0);
        Check.due("timer", p.host.stream(0, 11), 3);
        Check.due("half is acknowledged", p.segment(52, 2, ACK, 100), 0);
        Check.row("stream", p.streamRow(0), 2, 3, 20, 52, 2, 3, 1, 0, 100, 3, 0, 0);
        Check.due("3 ticks", p.host.tick(3), 0);
        Check.due("the fourth", p.host.tick(1), 1);
        Check.row("the other half", p.sentPayload(0), 20, 2, 52, 16, 16, 10);
        Check.due("an ack after that", p.segment(52, 3, ACK, 100), 0);
        Check.due("TRIES", p.host.stream(0, 10), 0);
        Check.due("timer", p.host.stream(0, 11), 0);
    }

    private static void moreDataDoesNotBegin() {
        Peer p = Peer.open(100);
        p.text(51, 1, ACK, 100, "\n");
        p.host.tick(2);
        Check.due("another line", p.text(52, 1, ACK, 100, "\n"), 1);
        Check.due("timer", p.host.stream(0, 11), 2);
        Check.due("2 ticks", p.host.tick(2), 1);
        Check.row("both in one", p.sentPayload(0), 20, 1, 53, 16, 16, 48, 10, 48, 10);
        p.segment(53, 5, ACK, 100);
        p.host.tick(9);
        p.text(53, 5, ACK, 100, "\n");
        Check.due("timer of what is sent then", p.host.stream(0, 11), 0);
        Check.due("3 ticks", p.host.tick(3), 0);
        Check.due("the fourth", p.host.tick(1), 1);
    }

    private static void otherSendingsDoNotBegin() {
        Peer p = Peer.open(100);
        p.text(51, 1, ACK, 100, "\n");
        p.host.tick(3);
        Check.due("ACK alone", p.text(51, 1, ACK, 100, "x"), 1);
        Check.due("ACK for SYN", p.segment(51, 1, SYN, 100), 1);
        Check.due("timer", p.host.stream(0, 11), 3);
    }

    private static void byNumbers() {
        Peer p = Peer.known();
        for (int port = 5; port < 8; port++) {
            p.port = port;
            p.segment(50, 0, SYN, 30);
        }
        p.port = 5;
        p.segment(51, 0, Peer.RESET, 30);
        p.port = 9;
        p.segment(50, 0, SYN, 30);
        Check.due("all at once", p.host.tick(4), 3);
        Check.due("first", p.host.sent(2, 9), 9);
        Check.due("second", p.host.sent(1, 9), 6);
        Check.due("third", p.host.sent(0, 9), 7);
        Check.due("sent anew", p.host.count(8), 3);
    }

    private static void giveUpToUnknown() {
        Peer p = new Peer(new WireHost());
        p.segment(50, 0, SYN, 30);
        Check.due("28 ticks", p.host.tick(28), 3);
        Check.row("ASK", p.sentFrame(0), 15, 1, 1, 1, 3);
        Check.due("32 ticks", p.host.tick(32), 1);
        Check.row("ASK", p.sentFrame(0), 15, 1, 1, 1, 3);
        Check.row("gone", p.streamRow(0), NONE);
        Check.due("no id was used", p.host.count(4), 0);
    }

    private static void nothingOnTheWay() {
        Peer p = Peer.open(100);
        p.text(51, 1, ACK, 100, "Gab");
        Check.due("40 ticks", p.host.tick(40), 0);
        Check.row("stream", p.streamRow(0), 2, 3, 20, 54, 1, 1, 0, 3, 100, 2, 0, 0);
    }

    private static void droppedArriveToo() {
        Peer p = Peer.known();
        p.frame(1);
        p.frame();
        Check.due("arrived", p.host.count(1), 3);
        Check.due("dropped", p.host.count(2), 2);
    }
}
