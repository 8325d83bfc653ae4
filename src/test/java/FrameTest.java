/** Promises 1, 2, 3, 5, 10 and 13: a new object, frames in and out, neighbours, echoes, counts. */
public final class FrameTest {
    public static void main(String[] args) {
        newObject();
        constants();
        octets();
        drops();
        neighbours();
        echoes();
        echoToUnknown();
        splitEcho();
        otherPayloads();
        framesKept();
        counts();
        idsGoRound();
        Check.end();
    }

    private static void newObject() {
        Peer p = new Peer(new WireHost());
        Check.row("counts of a new object", p.countRow(), 0, 0, 0, 0, 0, 0, 0, 0, 0);
        for (int address = -1; address <= 16; address++) {
            Check.due("known(" + address + ") of a new object", p.host.known(address), -1);
        }
        for (int s = 0; s < 3; s++) {
            Check.row("stream " + s + " of a new object", p.streamRow(s), 0, 0, 0, 0, 0, 0, 0, 0, 0, 0, 0, 0);
        }
        for (int k = 0; k < 2; k++) {
            Check.row("assembly " + k + " of a new object", p.assemblyRow(k), 0, 0, 0, 0, 0, 0);
        }
        for (int t = 0; t < 6; t++) {
            Check.due("erase(" + t + ") of a new object", p.host.erase(t), 0);
            Check.due("spoil(" + t + ", 0, 0) of a new object", p.host.spoil(t, 0, 0), -1);
        }
        Check.due("sent(0, 0) of a new object", p.host.sent(0, 0), -1);
    }

    private static void constants() {
        Check.due("REFUSED", WireHost.REFUSED, -1);
        Check.due("FULL", WireHost.FULL, -2);
    }

    private static void octets() {
        WireHost h = new WireHost();
        Check.due("octet(-1)", h.octet(-1), -1);
        Check.due("octet(256)", h.octet(256), -1);
        Check.due("octet(int min)", h.octet(Integer.MIN_VALUE), -1);
        Check.due("octet(int max)", h.octet(Integer.MAX_VALUE), -1);
        for (int i = 1; i <= 44; i++) {
            Check.due("octet no. " + i, h.octet(i == 1 ? 255 : 0), i);
            Check.due("count(7)", h.count(7), i);
        }
        Check.due("octet no. 45", h.octet(0), -2);
        Check.due("no octet as no. 45", h.octet(256), -1);
        Check.due("count(7) when full", h.count(7), 44);
        Check.due("arrive with 44", h.arrive(), -1);
        Check.due("count(7) after arrive", h.count(7), 0);
        Check.due("octet behind it", h.octet(7), 1);
    }

    private static void drops() {
        Peer p = Peer.known();
        int before = p.host.count(2);
        Check.due("no octets", p.frame(), -1);
        Check.due("4 octets", p.frame(1, 3, 1, 3), -1);
        Check.due("6 octets of ASK", p.frame(1, 3, 1, 3, 1, 0), -1);
        Check.due("6 octets of TELL", p.frame(1, 3, 2, 3, 1, 0), -1);
        Check.due("to 0", p.frame(0, 3, 1, 3, 1), -1);
        Check.due("to 2", p.frame(2, 3, 1, 3, 1), -1);
        Check.due("to 14", p.frame(14, 3, 1, 3, 1), -1);
        Check.due("to 16", p.frame(16, 3, 1, 3, 1), -1);
        Check.due("from 15", p.frame(1, 15, 1, 3, 1), -1);
        Check.due("from 255", p.frame(1, 255, 1, 3, 1), -1);
        Check.due("kind 0", p.frame(1, 3, 0, 3, 1), -1);
        Check.due("kind 4", p.frame(1, 3, 4, 3, 1), -1);
        Check.due("ASK of address 16", p.frame(1, 3, 1, 16, 1), -1);
        Check.due("ASK for address 16", p.frame(1, 3, 1, 3, 16), -1);
        Check.due("TELL of address 255", p.frame(1, 3, 2, 255, 1), -1);
        Check.due("TELL for address 16", p.frame(1, 3, 2, 3, 16), -1);
        Check.due("DATAGRAM of 8 octets", p.frame(1, 3, 3, 3, 1, 0, 0, 252), -1);
        Check.due("DATAGRAM with a wrong sum", p.frame(1, 3, 3, 3, 1, 0, 0, 1, 250, 8), -1);
        Check.due("DATAGRAM for another goal", p.frame(1, 3, 3, 3, 2, 0, 0, 1, 242, 8), -1);
        Check.due("DATAGRAM from address 16", p.frame(1, 3, 3, 16, 1, 0, 0, 1, 230, 8), -1);
        Check.due("dropped so far", p.host.count(2) - before, 20);
        Check.due("DATAGRAM of 42 octets", p.datagram(0, 0, 1, Peer.run(8, 33)), -1);
        Check.due("DATAGRAM of 41 octets", p.datagram(0, 0, 1, Peer.run(8, 32)), 2);
        Check.due("DATAGRAM of 9 octets", p.datagram(0, 0, 1), 0);
        Check.due("to all", p.frame(15, 14, 1, 0, 1), 1);
        Check.due("known(0)", p.host.known(0), 14);
        Check.due("known(3) after the dropped ones", p.host.known(3), 3);
        Check.due("dropped in the end", p.host.count(2) - before, 21);
    }

    private static void neighbours() {
        Peer p = new Peer(new WireHost());
        Check.due("ASK for 1", p.frame(15, 4, 1, 9, 1), 1);
        Check.row("TELL to it", p.sentFrame(0), 4, 1, 2, 1, 9);
        Check.due("known(9)", p.host.known(9), 4);
        Check.due("ASK for another", p.frame(15, 5, 1, 10, 2), 0);
        Check.due("known(10)", p.host.known(10), -1);
        Check.due("TELL to another", p.frame(1, 5, 2, 10, 0), 0);
        Check.due("known(10) still", p.host.known(10), -1);
        Check.due("TELL", p.frame(1, 0, 2, 15, 1), 0);
        Check.due("known(15)", p.host.known(15), 0);
        Check.due("TELL from elsewhere", p.frame(15, 6, 2, 9, 1), 0);
        Check.due("known(9) then", p.host.known(9), 6);
        Check.due("ASK by the host's own address", p.frame(1, 7, 1, 1, 1), 1);
        Check.due("known(1)", p.host.known(1), 7);
        Check.due("known(16)", p.host.known(16), -1);
        Check.due("known(-1)", p.host.known(-1), -1);
        Check.due("known(int min)", p.host.known(Integer.MIN_VALUE), -1);
    }

    private static void echoes() {
        Peer p = Peer.known();
        Check.due("ECHO", p.datagram(77, 0, 1, 8, 200, 100), 1);
        Check.row("its answer", p.sentFrame(0), 3, 1, 3, 1, 3, 0, 0, 1, 256 + 256 - 305, 0, 200, 100);
        Check.due("ECHO of one octet", p.datagram(77, 0, 1, 8), 1);
        Check.row("its answer", p.sentFrame(0), 3, 1, 3, 1, 3, 1, 0, 1, 250, 0);
        p.station = 6;
        Check.due("ECHO from another station", p.datagram(77, 0, 1, 8), 1);
        Check.due("goes where the address is known", p.host.sent(0, 0), 3);
    }

    private static void echoToUnknown() {
        Peer p = new Peer(new WireHost());
        Check.due("ECHO from an unknown one", p.datagram(1, 0, 1, 8, 1), 1);
        Check.row("ASK goes out", p.sentFrame(0), 15, 1, 1, 1, 3);
        Check.due("no id is used", p.host.count(4), 0);
        Check.due("long ECHO from an unknown one", p.datagram(1, 0, 1, Peer.run(8, 20)), 1);
        Check.due("frames sent", p.host.count(3), 2);
        p.frame(1, 3, 2, 3, 1);
        Check.due("nothing waits", p.host.count(3), 2);
        Check.due("ECHO when known", p.datagram(1, 0, 1, 8, 1), 1);
        Check.due("its id", p.host.sent(0, 5), 0);
        Check.due("ids used", p.host.count(4), 1);
    }

    private static void splitEcho() {
        Peer p = Peer.known();
        Check.due("ECHO of 16", p.datagram(1, 0, 1, Peer.run(8, 16)), 1);
        Check.due("place", p.host.sent(0, 6), 0);
        Check.due("length", p.sentFrame(0).length, 25);
        Check.due("ECHO of 17", p.datagram(1, 0, 1, Peer.run(8, 17)), 2);
        Check.due("length of the first", p.sentFrame(1).length, 25);
        Check.due("place of the first", p.host.sent(1, 6), 128);
        Check.due("id of the first", p.host.sent(1, 5), 1);
        Check.row("the second", p.sentFrame(0), 3, 1, 3, 1, 3, 1, 4, 1, 256 - 34, 24);
        Check.due("ECHO of 32", p.datagram(1, 0, 1, Peer.run(8, 32)), 2);
        Check.row("the first 16", p.sentPayload(1), 0, 9, 10, 11, 12, 13, 14, 15, 16, 17, 18, 19, 20, 21, 22, 23);
        Check.row("the rest", p.sentPayload(0), Peer.run(24, 16));
        Check.due("sum of the first", p.host.sent(1, 8), (512 - 135 - (31 * 8 - 8)) % 256);
        Check.due("ids used", p.host.count(4), 3);
        Check.due("frames sent", p.host.count(3), 5);
    }

    private static void otherPayloads() {
        Peer p = Peer.known();
        Check.due("ECHO that is asked", p.datagram(1, 0, 1, 8, 1), 1);
        Check.due("ECHO without payload behind it", p.datagram(1, 0, 1), 0);
        Check.due("ECHO that is an answer", p.datagram(1, 0, 1, 0, 1), 0);
        Check.due("ECHO with 9", p.datagram(1, 0, 1, 9), 0);
        Check.due("ECHO without payload", p.datagram(1, 0, 1), 0);
        Check.due("protocol 0", p.datagram(1, 0, 0, 8), 0);
        Check.due("protocol 17", p.datagram(1, 0, 17, 8), 0);
        Check.due("SEGMENT of 4", p.datagram(1, 0, 6, 20, 0, 0, 2), 0);
        Check.due("SEGMENT of none", p.datagram(1, 0, 6), 0);
        Check.row("counts", p.countRow(), 0, 10, 0, 1, 1, 0, 0, 0, 0);
    }

    private static void framesKept() {
        Peer p = Peer.known();
        for (int i = 0; i < 12; i++) {
            p.datagram(1, 0, 1, 8, i);
            Check.due("oldest after " + i, p.host.sent(i, 10), 0);
            Check.due("one older after " + i, p.host.sent(i + 1, 10), -1);
        }
        p.datagram(1, 0, 1, 8, 12);
        for (int k = 0; k < 12; k++) {
            Check.due("sent(" + k + ", 10)", p.host.sent(k, 10), 12 - k);
        }
        Check.due("sent(12, 10)", p.host.sent(12, 10), -1);
        Check.due("sent(-1, 0)", p.host.sent(-1, 0), -1);
        Check.due("sent(0, -1)", p.host.sent(0, -1), -1);
        Check.due("sent(0, 11)", p.host.sent(0, 11), -1);
        Check.due("sent(int max, 0)", p.host.sent(Integer.MAX_VALUE, 0), -1);
        Check.due("sent(int min, int min)", p.host.sent(Integer.MIN_VALUE, Integer.MIN_VALUE), -1);
        p.frame(1, 3, 1, 3, 1);
        Check.row("a short frame over a long one", p.sentFrame(0), 3, 1, 2, 1, 3);
    }

    private static void counts() {
        Peer p = Peer.known();
        p.host.tick(7);
        p.frame(1, 2, 3);
        p.datagram(1, 0, 1, Peer.run(8, 20));
        p.host.octet(1);
        p.host.octet(2);
        Check.row("counts", p.countRow(), 7, 3, 1, 2, 1, 0, 0, 2, 0);
        Check.due("count(-1)", p.host.count(-1), -1);
        Check.due("count(9)", p.host.count(9), -1);
        Check.due("count(int min)", p.host.count(Integer.MIN_VALUE), -1);
    }

    /** More calls than the document promises for, so that all ids are used once. */
    private static void idsGoRound() {
        Peer p = Peer.known();
        int[] echo = p.datagramFrame(1, 0, 1, 8);
        for (int i = 0; i < 256; i++) {
            p.frame(echo);
        }
        Check.due("the last id", p.host.sent(0, 5), 255);
        p.frame(echo);
        Check.due("the one behind it", p.host.sent(0, 5), 0);
        Check.due("ids used", p.host.count(4), 257);
    }
}
