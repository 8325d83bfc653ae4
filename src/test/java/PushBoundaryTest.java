/** The boundary cases of "Terms" that are about pushing: windows, paces, sizes, the FIN, numbers that go round. */
public final class PushBoundaryTest {
    private static final int FIN = Peer.FIN, SYN = Peer.SYN, ACK = Peer.ACK;
    private static final int CLOSING = 3, LAST = 4;

    public static void main(String[] args) {
        lesserOfWindowAndPace();
        eightAtMost();
        bothAllow();
        windowUsedUp();
        windowBelowWhatIsOnTheWay();
        paceTwoToFour();
        paceOne();
        allOfOutIsSent();
        finAtOnce();
        finBehindOut();
        finWhileOctetsWait();
        finWhileALineWaits();
        unfinishedLineIsLost();
        lastPushesNoMore();
        windowsThatAreSent();
        numbersThatAreSent();
        numbersGoRound();
        finGoesRound();
        unknownAddress();
        Check.end();
    }

    private static void lesserOfWindowAndPace() {
        Check.sentence("SENT - FIRST is less than the lesser one of WINDOW and 8 times PACE");
        for (int window = 0; window <= 255; window++) {
            Peer p = Peer.waiting(18);
            int most = Math.min(window, 16);
            Check.due("a window of " + window, p.segment(54, 1, ACK, window), (most + 7) / 8);
            Check.row("stream", p.streamRow(0), 2, 3, 20, 54, 1, 1 + most, 18, 0, window, 2, 0, 0);
        }
    }

    private static void eightAtMost() {
        Check.sentence("a SEGMENT with as many of them as both allow, 8 at most");
        for (int out = 2; out <= 16; out++) {
            Peer p = Peer.waiting(out);
            if (out <= 8) {
                Check.due("OUT of " + out, p.segment(54, 1, ACK, 255), 1);
                Check.row("sizes", p.sentSizes(1), out);
            } else {
                Check.due("OUT of " + out, p.segment(54, 1, ACK, 255), 2);
                Check.row("sizes", p.sentSizes(2), 8, out - 8);
            }
        }
    }

    private static void bothAllow() {
        Check.sentence("as many of them as both allow");
        Peer p = Peer.waiting(18);
        Check.due("a window of 1", p.segment(54, 1, ACK, 1), 1);
        Check.row("1 octet", p.sentPayload(0), 20, 1, 54, ACK, 16, 50);
        Check.due("a window of 10", p.segment(54, 1, ACK, 10), 2);
        Check.row("8 and 1", p.sentSizes(2), 8, 1);
        Check.due("a window of 100: PACE allows 16", p.segment(54, 1, ACK, 100), 1);
        Check.row("6", p.sentSizes(1), 6);
        Check.due("SENT", p.host.stream(0, 5), 17);
        Check.due("1 acknowledged: PACE allows 24", p.segment(54, 2, ACK, 100), 1);
        Check.row("the last 2", p.sentSizes(1), 2);
    }

    private static void windowUsedUp() {
        Check.sentence("SENT - FIRST is less than WINDOW: it is the same");
        Peer p = Peer.waiting(18);
        p.segment(54, 1, ACK, 8);
        Check.due("a window of 8 with 8 on the way", p.segment(54, 1, ACK, 8), 0);
        Check.due("a window of 9", p.segment(54, 1, ACK, 9), 1);
        Check.row("1 octet", p.sentSizes(1), 1);
        Check.due("16 on the way at PACE 2", p.segment(54, 1, ACK, 16), 1);
        Check.due("a window of 17", p.segment(54, 1, ACK, 17), 0);
    }

    private static void windowBelowWhatIsOnTheWay() {
        Check.sentence("SENT - FIRST is less than WINDOW: it is more");
        for (int window = 0; window < 16; window++) {
            Peer p = Peer.waiting(18);
            p.segment(54, 1, ACK, 16);
            Check.due("a window of " + window, p.segment(54, 1, ACK, window), 0);
            Check.row("stream", p.streamRow(0), 2, 3, 20, 54, 1, 17, 18, 0, window, 2, 0, 0);
        }
    }

    private static void paceTwoToFour() {
        Check.sentence("8 times PACE (1..4)");
        Peer p = Peer.full();
        p.text(83, 1, ACK, 0, "\n".repeat(16));
        Check.due("PACE 2", p.segment(99, 1, ACK, 255), 2);
        Check.due("SENT", p.host.stream(0, 5), 17);
        Check.due("PACE 3", p.segment(99, 17, ACK, 255), 3);
        Check.due("SENT", p.host.stream(0, 5), 17 + 24);
        Check.due("PACE 4", p.segment(99, 41, ACK, 255), 4);
        Check.row("32 on the way", p.streamRow(0), 2, 3, 20, 99, 41, 73, 56, 0, 255, 4, 0, 0);
        Check.due("PACE 4 still, 1 acknowledged", p.segment(99, 42, ACK, 255), 1);
        Check.row("32 on the way", p.streamRow(0), 2, 3, 20, 99, 42, 74, 55, 0, 255, 4, 0, 0);
    }

    private static void paceOne() {
        Check.sentence("8 times PACE: 8");
        Peer p = Peer.waiting(18);
        p.segment(54, 1, ACK, 255);
        Check.due("sent anew", p.host.tick(4), 1);
        Check.row("8 on the way", p.streamRow(0), 2, 3, 20, 54, 1, 9, 18, 0, 255, 1, 1, 0);
        Check.due("nothing more", p.segment(54, 1, ACK, 255), 0);
        Check.due("1 acknowledged: PACE 2", p.segment(54, 2, ACK, 255), 2);
        Check.row("8 and 1", p.sentSizes(2), 8, 1);
    }

    private static void allOfOutIsSent() {
        Check.sentence("as long as there are OCTETS of OUT not sent");
        Peer p = Peer.waiting(16);
        Check.due("all of it", p.segment(54, 1, ACK, 255), 2);
        Check.due("nothing is left", p.segment(54, 1, ACK, 255), 0);
        Check.due("nor when a part is acknowledged", p.segment(54, 9, ACK, 255), 0);
        Check.due("nor when all is", p.segment(54, 17, ACK, 255), 0);
        Check.row("stream", p.streamRow(0), 2, 3, 20, 54, 17, 17, 0, 0, 255, 4, 0, 0);
    }

    private static void finAtOnce() {
        Check.sentence("if it is CLOSING, all of OUT is sent: WINDOW does not bind the FIN");
        int[] windows = {0, 1, 255};
        for (int window : windows) {
            Peer p = Peer.open(window);
            Check.due("FIN", p.segment(51, 1, ACK | FIN, window), 1);
            Check.row("FIN + ACK", p.sentPayload(0), 20, 1, 52, FIN | ACK, 16);
            Check.row("stream", p.streamRow(0), 4, 3, 20, 52, 1, 2, 0, 0, window, 2, 0, 0);
        }
        Peer p = Peer.waiting(16);
        Check.due("16 octets at PACE 2, and FIN", p.segment(54, 1, ACK | FIN, 16), 3);
        Check.row("LAST", p.streamRow(0), 4, 3, 20, 55, 1, 18, 16, 0, 16, 2, 0, 0);
    }

    private static void finBehindOut() {
        Check.sentence("all of OUT is sent, FIN + ACK is sent, and it is LAST");
        Peer p = Peer.waiting(8);
        Check.due("FIN at a window of 7", p.segment(54, 1, ACK | FIN, 7), 1);
        Check.due("an octet waits", p.host.stream(0, 0), CLOSING);
        Check.due("a window of 8", p.segment(55, 1, ACK, 8), 2);
        Check.row("the octet", p.sentPayload(1), 20, 8, 55, ACK, 16, 10);
        Check.row("FIN + ACK", p.sentPayload(0), 20, 9, 55, FIN | ACK, 16);
        Check.row("LAST", p.streamRow(0), 4, 3, 20, 55, 1, 10, 8, 0, 8, 2, 0, 0);
    }

    private static void finWhileOctetsWait() {
        Check.sentence("all of OUT is sent: it is not");
        Peer p = Peer.waiting(18);
        Check.due("FIN at a window of 0", p.segment(54, 1, ACK | FIN, 0), 1);
        Check.row("ACK", p.sentPayload(0), 20, 1, 55, ACK, 16);
        Check.due("the state", p.host.stream(0, 0), CLOSING);
        Check.due("PACE allows 16 of 18", p.segment(55, 1, ACK, 255), 2);
        Check.due("the state", p.host.stream(0, 0), CLOSING);
        Check.due("1 acknowledged", p.segment(55, 2, ACK, 255), 2);
        Check.row("LAST", p.streamRow(0), 4, 3, 20, 55, 2, 20, 17, 0, 255, 3, 0, 0);
    }

    private static void finWhileALineWaits() {
        Check.sentence("and IN has no line that could be read: it has one");
        Peer p = Peer.full();
        p.text(83, 1, ACK | FIN, 0, "\n".repeat(16));
        Check.row("CLOSING", p.streamRow(0), 3, 3, 20, 100, 1, 1, 64, 16, 0, 2, 0, 0);
        p.segment(100, 1, ACK, 255);
        p.segment(100, 17, ACK, 255);
        Check.row("8 lines wait", p.streamRow(0), 3, 3, 20, 100, 17, 41, 64, 8, 255, 3, 0, 0);
        p.segment(100, 41, ACK, 255);
        Check.row("none waits, but octets do", p.streamRow(0), 3, 3, 20, 100, 41, 73, 56, 0, 255, 4, 0, 0);
        Check.due("all can be sent", p.segment(100, 73, ACK, 255), 4);
        Check.row("LAST", p.streamRow(0), 4, 3, 20, 100, 73, 98, 24, 0, 255, 4, 0, 0);
        Check.due("all lines were answered", p.host.count(6), 48);
    }

    private static void unfinishedLineIsLost() {
        Check.sentence("what is in IN (without an end) is lost");
        for (int size = 0; size <= 7; size++) {
            Peer p = Peer.open(9);
            boolean line = size == 7;
            Check.due(size + " octets and FIN", p.text(51, 1, ACK | FIN, 9, "x".repeat(size)), line ? 2 : 1);
            Check.row("FIN + ACK", p.sentPayload(0), 20, line ? 3 : 1, 52 + size, FIN | ACK, 16);
            Check.due("IN", p.host.stream(0, 7), 0);
            Check.due("lines", p.host.count(6), line ? 1 : 0);
        }
        Peer p = Peer.waiting(2);
        p.text(54, 1, ACK | FIN, 0, "Ga");
        Check.row("as long as OUT waits it stays", p.streamRow(0), 3, 3, 20, 57, 1, 1, 2, 2, 0, 2, 0, 0);
        Check.due("when it does not", p.segment(57, 1, ACK, 2), 2);
        Check.row("the octets", p.sentPayload(1), 20, 1, 57, ACK, 14, 50, 10);
        Check.row("FIN + ACK", p.sentPayload(0), 20, 3, 57, FIN | ACK, 16);
        Check.due("IN", p.host.stream(0, 7), 0);
    }

    private static void lastPushesNoMore() {
        Check.sentence("If it is not LAST, READING is done, then PUSHING");
        Peer p = Peer.waiting(4);
        p.segment(54, 1, ACK | FIN, 255);
        Check.due("LAST", p.host.stream(0, 0), LAST);
        Check.due("a part acknowledged", p.segment(55, 3, ACK, 255), 0);
        Check.due("all but FIN acknowledged", p.segment(55, 5, ACK, 255), 0);
        Check.row("LAST", p.streamRow(0), 4, 3, 20, 55, 5, 6, 0, 0, 255, 4, 0, 0);
    }

    private static void windowsThatAreSent() {
        Check.sentence("has ack NEXT and the window 16 less what is in IN");
        for (int size = 0; size <= 16; size++) {
            Peer p = Peer.full();
            p.text(83, 1, ACK, 0, "\n".repeat(size));
            Check.due("IN", p.host.stream(0, 7), size);
            p.segment(50, 0, SYN, 0);
            Check.row("ACK for SYN", p.sentPayload(0), 20, 1, 83 + size, ACK, 16 - size);
            p.segment(83 + size, 1, ACK, 1);
            Check.row("data", p.sentPayload(0), 20, 1, 83 + size, ACK, 16 - size, 48);
            Check.due("sent anew", p.host.tick(4), 1);
            Check.row("data", p.sentPayload(0), 20, 1, 83 + size, ACK, 16 - size, 48);
        }
    }

    private static void numbersThatAreSent() {
        Check.sentence("an ACK alone, DATA and FIN have the number SENT (as it is before)");
        Peer p = Peer.waiting(12);
        p.segment(54, 1, ACK | FIN, 255);
        Check.due("number of the first", p.host.sent(2, 10), 1);
        Check.due("number of the second", p.host.sent(1, 10), 9);
        Check.due("number of FIN", p.host.sent(0, 10), 13);
        Check.due("SENT", p.host.stream(0, 5), 14);
        p.segment(54, 1, ACK | FIN, 255);
        Check.row("ACK alone", p.sentPayload(0), 20, 14, 55, ACK, 16);
    }

    private static void numbersGoRound() {
        Check.sentence("SENT and FIRST (All numbers are modulo 256)");
        Peer p = Peer.known();
        p.host.tick(40);
        p.host.tick(22);
        p.store(0, "a", "0123456789");
        p.segment(50, 0, SYN, 255);
        Check.due("SENT", p.host.stream(0, 5), 249);
        Check.due("12 octets", p.text(51, 249, ACK, 255, "Ga\n"), 2);
        Check.row("the first", p.sentPayload(1), 20, 249, 54, ACK, 16, 50, '0', '1', '2', '3', '4', '5', '6');
        Check.row("the second", p.sentPayload(0), 20, 1, 54, ACK, 16, '7', '8', '9', 10);
        Check.row("stream", p.streamRow(0), 2, 3, 20, 54, 249, 5, 12, 0, 255, 2, 0, 0);
        Check.due("7 acknowledged", p.segment(54, 0, ACK, 255), 0);
        Check.row("stream", p.streamRow(0), 2, 3, 20, 54, 0, 5, 5, 0, 255, 3, 0, 0);
        Check.due("sent anew", p.host.tick(4), 1);
        Check.row("from there", p.sentPayload(0), 20, 0, 54, ACK, 16, '6', '7', '8', '9', 10);
        Check.due("the rest acknowledged", p.segment(54, 5, ACK, 255), 0);
        Check.row("stream", p.streamRow(0), 2, 3, 20, 54, 5, 5, 0, 0, 255, 2, 0, 0);
    }

    private static void finGoesRound() {
        Check.sentence("FIN last (All numbers are modulo 256)");
        Peer p = Peer.known();
        p.host.tick(40);
        p.host.tick(23);
        p.store(0, "a", "x");
        p.segment(50, 0, SYN, 255);
        Check.due("3 octets and FIN", p.text(51, 253, ACK | Peer.FIN, 255, "Ga\n"), 2);
        Check.row("FIN + ACK", p.sentPayload(0), 20, 0, 55, FIN | ACK, 16);
        Check.row("LAST", p.streamRow(0), 4, 3, 20, 55, 253, 1, 3, 0, 255, 2, 0, 0);
        Check.due("the octets acknowledged", p.segment(55, 0, ACK, 255), 0);
        Check.row("LAST", p.streamRow(0), 4, 3, 20, 55, 0, 1, 0, 0, 255, 3, 0, 0);
        Check.due("FIN acknowledged", p.segment(55, 1, ACK, 255), 0);
        Check.due("gone", p.host.stream(0, 0), 0);
    }

    private static void unknownAddress() {
        Check.sentence("To one not KNOWN: ASK is sent, and the PAYLOAD is lost: a STREAM goes on as if it were sent");
        Peer p = Peer.unknown();
        Check.due("SYN", p.segment(50, 0, SYN, 255), 1);
        Check.row("ASK", p.sentFrame(0), 15, 1, 1, 1, 3);
        p.store(0, "a", "0123456789");
        Check.due("12 octets: an ASK for each SEGMENT", p.text(51, 1, ACK, 255, "Ga\n"), 2);
        Check.row("stream", p.streamRow(0), 2, 3, 20, 54, 1, 13, 12, 0, 255, 2, 0, 0);
        Check.due("ids used", p.host.count(4), 0);
        p.frame(1, 3, 2, 3, 1);
        Check.due("sent anew when it is known", p.host.tick(4), 1);
        Check.row("data", p.sentPayload(0), 20, 1, 54, ACK, 16, 50, '0', '1', '2', '3', '4', '5', '6');
    }
}
