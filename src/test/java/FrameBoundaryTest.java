/** The boundary cases of "Terms" that are about frames, neighbours, echoes and the sending of payloads. */
public final class FrameBoundaryTest {
    public static void main(String[] args) {
        lengths();
        receivers();
        senders();
        kinds();
        shortLengths();
        datagramLengths();
        addressesOfShortFrames();
        addressesOfDatagrams();
        sums();
        sumsOfEveryOctet();
        sumsLeaveOutTheHead();
        sumsThatAreSent();
        sumsOfPieces();
        framesOverOthers();
        goals();
        droppedChangeNothing();
        askedForOthers();
        toldToOthers();
        knownAnew();
        firstOctetOfEchoes();
        emptyEchoes();
        shortSegments();
        otherProtocols();
        piecesAtSixteen();
        idsOfPieces();
        idsOfWhatIsNotSent();
        payloadsToUnknown();
        Check.end();
    }

    private static void lengths() {
        Check.sentence("DROPPED if it has fewer than 5 or more than 41 OCTETS");
        int[] ask = {1, 3, 1, 3, 1};
        for (int n = 0; n < 5; n++) {
            Check.due(n + " octets of ASK", Peer.unknown().frame(java.util.Arrays.copyOf(ask, n)), -1);
        }
        Check.due("5 octets of ASK", Peer.unknown().frame(ask), 1);
        Check.due("DATAGRAM of 40", Peer.known().datagram(1, 0, 1, Peer.run(8, 31)), 2);
        Check.due("DATAGRAM of 41", Peer.known().datagram(1, 0, 1, Peer.run(8, 32)), 2);
        for (int n = 33; n <= 35; n++) {
            Peer p = Peer.known();
            Check.due("DATAGRAM of " + (9 + n), p.datagram(1, 0, 1, Peer.run(8, n)), -1);
            Check.due("octets of the next", p.host.count(7), 0);
        }
    }

    private static void receivers() {
        Check.sentence("DROPPED if to is not 1 or 15");
        for (int to = 0; to <= 255; to++) {
            boolean fits = to == 1 || to == 15;
            Check.due("ASK to " + to, Peer.unknown().frame(to, 3, 1, 3, 1), fits ? 1 : -1);
        }
    }

    private static void senders() {
        Check.sentence("DROPPED if from is not 0..14");
        for (int from = 0; from <= 255; from++) {
            Peer p = Peer.unknown();
            Check.due("TELL from " + from, p.frame(1, from, 2, 3, 1), from <= 14 ? 0 : -1);
            Check.due("known(3) after TELL from " + from, p.host.known(3), from <= 14 ? from : -1);
        }
    }

    private static void kinds() {
        Check.sentence("DROPPED if the kind is none");
        for (int kind = 0; kind <= 255; kind++) {
            boolean isShort = kind == 1 || kind == 2;
            Check.due("5 octets of kind " + kind, Peer.unknown().frame(1, 3, kind, 3, 2), isShort ? 0 : -1);
            Check.due("9 octets of kind " + kind, Peer.unknown().frame(1, 3, kind, 3, 1, 0, 0, 0, 252), kind == 3 ? 0 : -1);
        }
    }

    private static void shortLengths() {
        Check.sentence("DROPPED if its length is not so: ASK and TELL (5 OCTETS in all)");
        for (int n = 6; n <= 44; n++) {
            int[] frame = new int[n];
            frame[0] = 1;
            frame[1] = 3;
            frame[3] = 3;
            frame[4] = 1;
            for (int kind = 1; kind <= 2; kind++) {
                Peer p = Peer.unknown();
                frame[2] = kind;
                Check.due(n + " octets of kind " + kind, p.frame(frame), -1);
                Check.due("known(3)", p.host.known(3), -1);
            }
        }
    }

    private static void datagramLengths() {
        Check.sentence("DROPPED if its length is not so (a DATAGRAM has 9 at least)");
        Check.due("5 octets", Peer.unknown().frame(1, 3, 3, 3, 1), -1);
        Check.due("6 octets", Peer.unknown().frame(1, 3, 3, 3, 1, 252), -1);
        Check.due("7 octets", Peer.unknown().frame(1, 3, 3, 3, 1, 252, 0), -1);
        Check.due("8 octets", Peer.unknown().frame(1, 3, 3, 3, 1, 252, 0, 0), -1);
        Check.due("9 octets", Peer.unknown().frame(1, 3, 3, 3, 1, 252, 0, 0, 0), 0);
        // The octets of the frame before it must not make a short one longer.
        Peer p = Peer.known();
        p.datagram(1, 0, 1, 8);
        Check.due("8 octets behind a longer one", p.frame(1, 3, 3, 3, 1, 251, 0, 1), -1);
    }

    private static void addressesOfShortFrames() {
        Check.sentence("DROPPED if an ADDRESS is above 15: ASK and TELL");
        for (int address = 0; address <= 255; address++) {
            boolean fits = address <= 15;
            Check.due("ASK of " + address, Peer.unknown().frame(1, 3, 1, address, 1), fits ? 1 : -1);
            Check.due("ASK for " + address, Peer.unknown().frame(1, 3, 1, 3, address), fits ? (address == 1 ? 1 : 0) : -1);
            Check.due("TELL of " + address, Peer.unknown().frame(1, 3, 2, address, 1), fits ? 0 : -1);
            Check.due("TELL to " + address, Peer.unknown().frame(1, 3, 2, 3, address), fits ? 0 : -1);
        }
    }

    private static void addressesOfDatagrams() {
        Check.sentence("DROPPED if an ADDRESS is above 15: DATAGRAM");
        for (int address = 0; address <= 255; address++) {
            Peer p = Peer.unknown();
            p.address = address;
            Check.due("ECHO of " + address, p.datagram(1, 0, 1, 8), address <= 15 ? 1 : -1);
        }
    }

    private static void sums() {
        Check.sentence("all OCTETS behind the kind are 0 together, modulo 256");
        for (int sum = 0; sum <= 255; sum++) {
            Check.due("sum " + sum, Peer.known().frame(1, 3, 3, 3, 1, 7, 0, 1, sum, 8), sum == 256 - 20 ? 1 : -1);
        }
        int[] most = new int[32];
        java.util.Arrays.fill(most, 255);
        most[0] = 8;
        Check.due("many times 256", Peer.known().datagram(255, 0, 1, most), 2);
        Peer none = Peer.known();
        none.address = 0;
        Check.due("sum 0 of octets that are 256", none.frame(1, 3, 3, 0, 1, 0, 0, 1, 0, 8, 246), 1);
    }

    private static void sumsOfEveryOctet() {
        Check.sentence("DROPPED if the sum is not so");
        int[] fits = Peer.known().datagramFrame(9, 0, 1, Peer.run(8, 5));
        for (int i = 3; i < fits.length; i++) {
            int[] frame = fits.clone();
            frame[i]++;
            Check.due("octet " + i + " is one more", Peer.known().frame(frame), -1);
        }
        Check.due("all as they were", Peer.known().frame(fits), 1);
    }

    private static void sumsLeaveOutTheHead() {
        Check.sentence("to, from and the kind are not in the sum");
        int[] frame = Peer.known().datagramFrame(9, 0, 1, 8, 1);
        frame[0] = 15;
        Check.due("to all", Peer.known().frame(frame), 1);
        frame[1] = 14;
        Check.due("from another station", Peer.known().frame(frame), 1);
    }

    private static void sumsThatAreSent() {
        Check.sentence("FRAMES (in and out): all OCTETS behind the kind are 0 together, modulo 256");
        for (int v = 0; v <= 255; v++) {
            Peer p = Peer.known();
            p.datagram(77, 0, 1, 8, v);
            Check.row("ECHO of 8, " + v, p.sentFrame(0), 3, 1, 3, 1, 3, 0, 0, 1, (512 - 5 - v) % 256, 0, v);
        }
        Peer p = Peer.known();
        p.segment(50, 0, Peer.SYN, 9);
        Check.row("SYN + ACK", p.sentFrame(0), 3, 1, 3, 1, 3, 0, 0, 6, 256 - 115, 20, 0, 51, 18, 16);
    }

    private static void sumsOfPieces() {
        Check.sentence("FRAMES (in and out): each of two FRAGMENTS has its own sum");
        for (int n = 17; n <= 32; n++) {
            Peer p = Peer.known();
            p.datagram(77, 0, 1, 8);
            p.datagram(77, 0, 1, Peer.run(8, n));
            int[] first = p.sentFrame(1);
            int[] second = p.sentFrame(0);
            Check.row("head of the first", java.util.Arrays.copyOf(first, 8), 3, 1, 3, 1, 3, 1, 128, 1);
            Check.row("head of the second", java.util.Arrays.copyOf(second, 8), 3, 1, 3, 1, 3, 1, 4, 1);
            Check.due("the first together", java.util.Arrays.stream(first, 3, first.length).sum() % 256, 0);
            Check.due("the second together", java.util.Arrays.stream(second, 3, second.length).sum() % 256, 0);
        }
    }

    private static void framesOverOthers() {
        Check.sentence("FRAMES are rows of OCTETS: none has OCTETS of an earlier one");
        Peer p = Peer.unknown();
        for (int i = 0; i <= 13; i++) {
            p.frame(1, i, 1, 15 - i, 1);
            Check.row("TELL", p.sentFrame(0), i, 1, 2, 1, 15 - i);
        }
        for (int i = 0; i <= 11; i++) {
            p.address = 15 - i;
            p.datagram(77, 0, 1, 8);
            Check.row("ECHO", p.sentFrame(0), i, 1, 3, 1, 15 - i, i, 0, 1, 256 - 17, 0);
        }
    }

    private static void goals() {
        Check.sentence("DROPPED if (DATAGRAM) the goal is not 1");
        for (int goal = 0; goal <= 255; goal++) {
            int sum = (512 - 3 - goal - 1 - 8) % 256;
            Check.due("goal " + goal, Peer.known().frame(1, 3, 3, 3, goal, 0, 0, 1, sum, 8), goal == 1 ? 1 : -1);
        }
    }

    private static void droppedChangeNothing() {
        Check.sentence("count: 1 counts DROPPED FRAMES too");
        Peer p = Peer.unknown();
        Check.due("a dropped TELL", p.frame(2, 3, 2, 3, 1), -1);
        Check.due("a dropped ASK", p.frame(1, 15, 1, 3, 1), -1);
        Check.due("no octets", p.frame(), -1);
        Check.due("known(3)", p.host.known(3), -1);
        Check.row("counts", p.countRow(), 0, 3, 3, 0, 0, 0, 0, 0, 0);
        Check.due("one that fits", p.frame(1, 3, 2, 3, 1), 0);
        Check.row("counts", p.countRow(), 0, 4, 3, 0, 0, 0, 0, 0, 0);
    }

    private static void askedForOthers() {
        Check.sentence("ASK, with b 1 (Others change nothing)");
        for (int b = 0; b <= 15; b++) {
            Peer p = Peer.unknown();
            Check.due("ASK for " + b, p.frame(15, 4, 1, 3, b), b == 1 ? 1 : 0);
            Check.due("known(3) after it", p.host.known(3), b == 1 ? 4 : -1);
            Check.row("what was sent", p.sentFrame(0), b == 1 ? new int[] {4, 1, 2, 1, 3} : new int[0]);
            Check.due("dropped", p.host.count(2), 0);
        }
    }

    private static void toldToOthers() {
        Check.sentence("TELL, with b 1 (Others change nothing)");
        for (int b = 0; b <= 15; b++) {
            Peer p = Peer.unknown();
            Check.due("TELL to " + b, p.frame(15, 4, 2, 3, b), 0);
            Check.due("known(3) after it", p.host.known(3), b == 1 ? 4 : -1);
            Check.due("dropped", p.host.count(2), 0);
        }
    }

    private static void knownAnew() {
        Check.sentence("a is KNOWN to be at from then");
        Peer p = Peer.known();
        p.frame(1, 14, 1, 3, 1);
        Check.due("after ASK from elsewhere", p.host.known(3), 14);
        p.frame(1, 0, 2, 3, 1);
        Check.due("after TELL from elsewhere", p.host.known(3), 0);
        p.frame(1, 5, 2, 3, 2);
        Check.due("after TELL to another", p.host.known(3), 0);
        p.station = 9;
        p.datagram(1, 0, 1, 8);
        Check.due("after a datagram from elsewhere", p.host.known(3), 0);
        Check.due("where its echo went", p.host.sent(0, 0), 0);
    }

    private static void firstOctetOfEchoes() {
        Check.sentence("ECHO: if the PAYLOAD begins with 8");
        for (int v = 0; v <= 255; v++) {
            Peer p = Peer.known();
            Check.due("ECHO of " + v + ", 8", p.datagram(1, 0, 1, v, 8), v == 8 ? 1 : 0);
            Check.due("dropped", p.host.count(2), 0);
        }
    }

    private static void emptyEchoes() {
        Check.sentence("a PAYLOAD of 0..32 OCTETS: ECHO");
        Peer p = Peer.known();
        Check.due("of one octet", p.datagram(1, 0, 1, 8), 1);
        Check.row("goes back", p.sentPayload(0), 0);
        Check.due("of none, behind it", p.datagram(1, 0, 1), 0);
        Check.due("8 of another protocol", p.datagram(1, 0, 99, 8), 0);
        Check.due("of none, behind that", p.datagram(1, 0, 1), 0);
        Check.due("of 32", p.datagram(1, 0, 1, Peer.run(8, 32)), 2);
        Check.row("the first 16", p.sentPayload(1), 0, 9, 10, 11, 12, 13, 14, 15, 16, 17, 18, 19, 20, 21, 22, 23);
        Check.row("the rest", p.sentPayload(0), Peer.run(24, 16));
    }

    private static void shortSegments() {
        Check.sentence("SEGMENT, with at least 5 OCTETS");
        int[] segment = {20, 7, 9, 16, 5, 65};
        for (int n = 0; n <= 6; n++) {
            Peer p = Peer.known();
            Check.due(n + " octets", p.datagram(1, 0, 6, java.util.Arrays.copyOf(segment, n)), n < 5 ? 0 : 1);
            Check.due("dropped", p.host.count(2), 0);
        }
        Peer p = Peer.known();
        p.datagram(1, 0, 6, segment);
        Check.due("4 octets behind a longer one", p.datagram(1, 0, 6, 20, 7, 9, 16), 0);
    }

    private static void otherProtocols() {
        Check.sentence("Others, and other PAYLOADS, change nothing.");
        for (int protocol = 0; protocol <= 255; protocol++) {
            Peer p = Peer.known();
            boolean known = protocol == 1 || protocol == 6;
            Check.due("protocol " + protocol, p.datagram(1, 0, protocol, 8, 0, 0, 2, 0), known ? 1 : 0);
            Check.due("streams begun", p.host.count(5), protocol == 6 ? 1 : 0);
            Check.due("dropped", p.host.count(2), 0);
        }
    }

    private static void piecesAtSixteen() {
        Check.sentence("with more than 16 OCTETS two FRAGMENTS: the first 16, then the rest");
        for (int n = 1; n <= 32; n++) {
            Peer p = Peer.known();
            boolean two = n > 16;
            Check.due("ECHO of " + n, p.datagram(1, 0, 1, Peer.run(8, n)), two ? 2 : 1);
            Check.due("octets of the latest", p.sentPayload(0).length, two ? n - 16 : n);
            Check.due("its place", p.host.sent(0, 6), two ? 4 : 0);
            Check.due("octets of the one before it", p.sentPayload(1).length, two ? 16 : 0);
            Check.due("its place", p.host.sent(1, 6), two ? 128 : -1);
        }
    }

    private static void idsOfPieces() {
        Check.sentence("two FRAGMENTS with the same id");
        Peer p = Peer.known();
        for (int i = 0; i < 3; i++) {
            p.datagram(1, 0, 1, Peer.run(8, 17));
            Check.due("id of the first", p.host.sent(1, 5), i);
            Check.due("id of the second", p.host.sent(0, 5), i);
            Check.due("ids used", p.host.count(4), i + 1);
        }
        Check.due("frames sent", p.host.count(3), 6);
    }

    private static void idsOfWhatIsNotSent() {
        Check.sentence("id: how many the host has sent so");
        Peer p = Peer.known();
        p.frame(1, 3, 1, 3, 1);
        p.address = 4;
        p.datagram(1, 0, 1, 8);
        Check.due("TELL and ASK use none", p.host.count(4), 0);
        p.address = 3;
        p.datagram(77, 0, 1, 8);
        Check.due("the first id", p.host.sent(0, 5), 0);
        Check.due("ids used", p.host.count(4), 1);
    }

    private static void payloadsToUnknown() {
        Check.sentence("To one not KNOWN: ASK is sent to STATION 15, and the PAYLOAD is lost (the id is not used)");
        for (int address = 0; address <= 15; address++) {
            Peer p = Peer.unknown();
            p.address = address;
            Check.due("ECHO of 32 from " + address, p.datagram(1, 0, 1, Peer.run(8, 32)), 1);
            Check.row("ASK", p.sentFrame(0), 15, 1, 1, 1, address);
            Check.due("TELL", p.frame(1, 6, 2, address, 1), 0);
            Check.due("frames sent", p.host.count(3), 1);
            Check.due("ids used", p.host.count(4), 0);
            Check.due("ECHO when it is known", p.datagram(1, 0, 1, 8), 1);
            Check.due("where it goes", p.host.sent(0, 0), 6);
            Check.due("its id", p.host.sent(0, 5), 0);
        }
    }
}
