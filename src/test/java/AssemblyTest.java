/** Promise 12 and the fragments of promise 3: datagrams put together, lost and dropped. */
public final class AssemblyTest {
    private static final int MORE = 128;

    public static void main(String[] args) {
        dropped();
        anyOrder();
        emptyEnd();
        cutUnits();
        protocolOfPlaceZero();
        twoUnitsAtOnce();
        overlaps();
        behindAWholeOne();
        ends();
        twoAssemblies();
        sameTickOrder();
        wholeBeside();
        age();
        outOfRange();
        segmentInFragments();
        Check.end();
    }

    private static int dropped(Peer p, int place, int size) {
        return p.datagram(1, place, 1, Peer.run(8, size));
    }

    private static void dropped() {
        Peer p = Peer.known();
        Check.due("PLACE 8", dropped(p, 8, 0), -1);
        Check.due("PLACE 127", dropped(p, 127, 0), -1);
        Check.due("PLACE 8 with more", dropped(p, MORE + 8, 4), -1);
        Check.due("PLACE 127 with more", dropped(p, 255, 4), -1);
        Check.due("more, with none", dropped(p, MORE, 0), -1);
        Check.due("more, with 3", dropped(p, MORE, 3), -1);
        Check.due("more, with 5", dropped(p, MORE + 1, 5), -1);
        Check.due("more, beyond 32", dropped(p, MORE + 7, 8), -1);
        Check.due("more, beyond 32 from 1", dropped(p, MORE + 1, 32), -1);
        Check.due("end beyond 32", dropped(p, 7, 5), -1);
        Check.due("end beyond 32 from 1", dropped(p, 1, 29), -1);
        Check.row("no assembly", p.assemblyRow(0), 0, 0, 0, 0, 0, 0);
        Check.due("count(2)", p.host.count(2), 11);
        Check.due("more up to 32", dropped(p, MORE + 7, 4), 0);
        Check.row("assembly", p.assemblyRow(0), 1, 3, 1, 128, -1, 0);
        Check.due("all of it with more", p.datagram(2, MORE, 1, Peer.run(8, 32)), 0);
        Check.row("assembly", p.assemblyRow(1), 1, 3, 2, 255, -1, 0);
        Check.due("end at 32 with another id", p.datagram(3, 1, 1, Peer.run(8, 28)), 0);
        Check.row("assembly", p.assemblyRow(0), 1, 3, 3, 254, 32, 0);
        Check.due("count(2) still", p.host.count(2), 11);
    }

    private static void anyOrder() {
        Peer p = Peer.known();
        Check.due("the end", p.datagram(9, 2, 1, 18, 19, 20), 0);
        Check.row("assembly", p.assemblyRow(0), 1, 3, 9, 4, 11, 0);
        Check.due("the middle", p.datagram(9, MORE + 1, 1, 14, 15, 16, 17), 0);
        Check.row("assembly", p.assemblyRow(0), 1, 3, 9, 6, 11, 0);
        Check.due("the first", p.datagram(9, MORE, 1, 8, 11, 12, 13), 1);
        Check.row("assembly", p.assemblyRow(0), 0, 0, 0, 0, 0, 0);
        Check.row("the echo", p.sentPayload(0), 0, 11, 12, 13, 14, 15, 16, 17, 18, 19, 20);
        Check.due("the end again begins one", p.datagram(9, 2, 1, 18, 19, 20), 0);
        Check.due("in use", p.host.assembly(0, 0), 1);
    }

    private static void emptyEnd() {
        Peer p = Peer.known();
        p.datagram(9, MORE, 1, Peer.run(8, 8));
        Check.due("an end without payload", p.datagram(9, 2, 1), 1);
        Check.due("length of the echo", p.sentPayload(0).length, 8);
        p.datagram(9, 2, 1);
        Check.row("an end alone", p.assemblyRow(0), 1, 3, 9, 0, 8, 0);
        Check.due("the same end again", p.datagram(9, 2, 1), 0);
        Check.due("is no clash", p.host.assembly(0, 0), 1);
        Check.due("and with the unit before it", p.datagram(9, 1, 1, 1, 2, 3, 4), 0);
        Check.row("is none either", p.assemblyRow(0), 1, 3, 9, 2, 8, 0);
        Check.due("the first", p.datagram(9, MORE, 1, 8, 0, 0, 0), 1);
        Check.row("the echo", p.sentPayload(0), 0, 0, 0, 0, 1, 2, 3, 4);
    }

    private static void cutUnits() {
        Peer p = Peer.known();
        p.datagram(9, 1, 1, 5);
        Check.row("one octet is a unit", p.assemblyRow(0), 1, 3, 9, 2, 5, 0);
        p.datagram(10, 1, 1, Peer.run(1, 5));
        Check.row("five octets are two", p.assemblyRow(1), 1, 3, 10, 6, 9, 0);
        Check.due("the first", p.datagram(9, MORE, 1, 8, 0, 0, 0), 1);
        Check.row("the echo", p.sentPayload(0), 0, 0, 0, 0, 5);
    }

    private static void protocolOfPlaceZero() {
        Peer p = Peer.known();
        p.datagram(9, MORE, 1, 8, 0, 0, 0);
        Check.due("the end says 6", p.datagram(9, 1, 6, 5), 1);
        Check.due("it is an echo", p.host.sent(0, 7), 1);
        p.datagram(9, 1, 1, 5);
        Check.due("the first says 99", p.datagram(9, MORE, 99, 8, 0, 0, 0), 0);
        Check.due("it was whole", p.host.assembly(0, 0), 0);
        p.datagram(9, MORE, 99, 8, 0, 0, 0);
        Check.due("nothing is left of the one before", p.datagram(9, 1, 1, 5), 0);
    }

    private static void twoUnitsAtOnce() {
        Peer p = Peer.known();
        p.datagram(9, MORE, 1, Peer.run(8, 16));
        Check.due("units", p.host.assembly(0, 3), 15);
        Check.due("the end", p.datagram(9, 4, 1, Peer.run(24, 16)), 2);
        Check.row("the echo", p.sentPayload(0), Peer.run(24, 16));
    }

    private static void overlaps() {
        Peer p = Peer.known();
        p.datagram(9, MORE + 1, 1, Peer.run(8, 8));
        Check.due("the last unit again", p.datagram(9, MORE + 2, 1, 1, 2, 3, 4), 0);
        Check.row("lost", p.assemblyRow(0), 0, 0, 0, 0, 0, 0);
        p.datagram(9, MORE + 1, 1, 1, 2, 3, 4);
        p.datagram(9, MORE, 1, Peer.run(8, 8));
        Check.due("a longer one over it", p.host.assembly(0, 0), 0);
        p.datagram(9, 1, 1, 1);
        p.datagram(9, 1, 1, 1);
        Check.due("a cut unit again", p.host.assembly(0, 0), 0);
        p.datagram(9, MORE + 1, 1, 1, 2, 3, 4);
        p.datagram(9, MORE + 2, 1, 1, 2, 3, 4);
        Check.due("units side by side", p.host.assembly(0, 3), 6);
        Check.due("nothing of it dropped", p.host.count(2), 0);
    }

    private static void behindAWholeOne() {
        Peer p = Peer.known();
        Check.due("no stream for a segment", p.datagram(1, 0, 6, 20, 0, 0, 16, 0), 1);
        Check.due("a fragment behind it", p.datagram(9, 1, 1, 1, 2, 3, 4), 0);
        Check.due("another", p.datagram(9, 128 + 2, 1, 1, 2, 3, 4), 0);
        Check.due("lost", p.host.assembly(0, 0), 0);
        Check.due("frames sent", p.host.count(3), 1);
    }

    private static void ends() {
        Peer p = Peer.known();
        p.datagram(9, 2, 1, 1, 2);
        p.datagram(9, MORE + 3, 1, 1, 2, 3, 4);
        Check.due("beyond an end", p.host.assembly(0, 0), 0);
        p.datagram(9, 3, 1);
        p.datagram(9, 1, 1, 1, 2, 3, 4);
        Check.due("another end before it", p.host.assembly(0, 0), 0);
        p.datagram(9, 2, 1);
        p.datagram(9, 3, 1);
        Check.due("another end behind it", p.host.assembly(0, 0), 0);
        p.datagram(9, MORE + 3, 1, 1, 2, 3, 4);
        p.datagram(9, 2, 1, 1, 2, 3, 4);
        Check.due("an end before a unit that is there", p.host.assembly(0, 0), 0);
        p.datagram(9, MORE + 1, 1, 1, 2, 3, 4);
        p.datagram(9, 1, 1);
        Check.due("an end at the beginning of a unit", p.host.assembly(0, 0), 0);
        p.datagram(9, MORE + 1, 1, 1, 2, 3, 4);
        p.datagram(9, 2, 1);
        Check.row("an end behind the unit is fine", p.assemblyRow(0), 1, 3, 9, 2, 8, 0);
        p.datagram(9, MORE, 1, 8, 0, 0, 0);
        Check.due("and makes it whole", p.host.count(3), 1);
        p.datagram(9, 3, 1);
        p.datagram(9, MORE + 2, 1, 1, 2, 3, 4);
        Check.due("up to the end", p.host.assembly(0, 3), 4);
        Check.due("nothing of it dropped", p.host.count(2), 0);
    }

    private static void twoAssemblies() {
        Peer p = Peer.known();
        p.datagram(1, 7, 1);
        p.host.tick(1);
        p.datagram(2, 7, 1);
        p.address = 4;
        p.datagram(1, 6, 1);
        Check.row("the earlier one is lost", p.assemblyRow(0), 1, 4, 1, 0, 24, 0);
        Check.row("the other stays", p.assemblyRow(1), 1, 3, 2, 0, 28, 0);
        p.datagram(3, 6, 1);
        Check.row("then the other is the earlier", p.assemblyRow(1), 1, 4, 3, 0, 24, 0);
        Check.row("and this one stays", p.assemblyRow(0), 1, 4, 1, 0, 24, 0);
        p.datagram(3, 5, 1);
        Check.due("1 lost by another end", p.host.assembly(1, 0), 0);
        p.datagram(4, 6, 1);
        Check.due("the free one is taken", p.host.assembly(1, 2), 4);
        p.datagram(1, 5, 1);
        Check.due("0 lost", p.host.assembly(0, 0), 0);
        p.datagram(5, 6, 1);
        Check.due("0 taken", p.host.assembly(0, 2), 5);
        p.datagram(6, 6, 1);
        Check.due("1 was begun earlier", p.host.assembly(1, 2), 6);
        Check.due("0 stays", p.host.assembly(0, 2), 5);
        p.datagram(5, 5, 1);
        p.datagram(6, 5, 1);
        p.datagram(7, 5, 1);
        Check.due("with both free the least is taken", p.host.assembly(0, 2), 7);
        Check.due("and the other is free", p.host.assembly(1, 0), 0);
    }

    private static void sameTickOrder() {
        Peer p = Peer.known();
        p.datagram(1, 7, 1);
        p.datagram(2, 7, 1);
        p.datagram(1, MORE, 1, 8, 0, 0, 0);
        p.datagram(3, 7, 1);
        Check.due("a later fragment makes it no later", p.host.assembly(0, 2), 3);
        Check.due("the second stays", p.host.assembly(1, 2), 2);
    }

    private static void wholeBeside() {
        Peer p = Peer.known();
        p.datagram(1, MORE, 1, 8, 0, 0, 0);
        Check.due("a whole one of the same id", p.datagram(1, 0, 1, 8, 5), 1);
        Check.row("leaves the assembly", p.assemblyRow(0), 1, 3, 1, 1, -1, 0);
        Check.due("which goes on", p.datagram(1, 1, 1, 7), 1);
        Check.row("the echo", p.sentPayload(0), 0, 0, 0, 0, 7);
    }

    private static void age() {
        Peer p = Peer.known();
        p.host.tick(40);
        p.datagram(1, 7, 1);
        p.host.tick(5);
        p.datagram(2, 7, 1);
        p.datagram(1, MORE, 1, 8, 0, 0, 0);
        p.host.tick(9);
        Check.due("age of 0", p.host.assembly(0, 5), 14);
        Check.due("age of 1", p.host.assembly(1, 5), 9);
        p.host.tick(1);
        Check.row("0 is lost by time", p.assemblyRow(0), 0, 0, 0, 0, 0, 0);
        Check.due("age of 1", p.host.assembly(1, 5), 10);
        p.host.tick(5);
        Check.due("1 is lost by time", p.host.assembly(1, 0), 0);
        Check.due("nothing dropped", p.host.count(2), 0);
    }

    private static void outOfRange() {
        Peer p = Peer.known();
        p.datagram(1, 7, 1);
        for (int k = 0; k < 2; k++) {
            Check.due("assembly(" + k + ", -1)", p.host.assembly(k, -1), -1);
            Check.due("assembly(" + k + ", 6)", p.host.assembly(k, 6), -1);
            Check.due("assembly(" + k + ", int max)", p.host.assembly(k, Integer.MAX_VALUE), -1);
        }
        Check.due("assembly(-1, 0)", p.host.assembly(-1, 0), -1);
        Check.due("assembly(2, 0)", p.host.assembly(2, 0), -1);
        Check.due("assembly(int min, 0)", p.host.assembly(Integer.MIN_VALUE, 0), -1);
    }

    private static void segmentInFragments() {
        Peer p = Peer.known();
        Check.due("the end", p.datagram(1, 1, 1, 30), 0);
        Check.due("the first makes a SYN", p.datagram(1, MORE, 6, 20, 50, 0, 2), 1);
        Check.row("stream", p.streamRow(0), 1, 3, 20, 51, 0, 1, 0, 0, 30, 1, 0, 0);
    }
}
