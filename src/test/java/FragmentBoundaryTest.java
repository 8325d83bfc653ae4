/** The boundary cases of "Terms" that are about fragments and assemblies. */
public final class FragmentBoundaryTest {
    private static final int MORE = 128;
    private static final int[] FREE = {0, 0, 0, 0, 0, 0};

    public static void main(String[] args) {
        placeZero();
        places();
        placesWithMore();
        sizesWithMore();
        sizesOfEnds();
        reachOfEnds();
        reachWithMore();
        belonging();
        unitsOfTheFirst();
        leastFree();
        earlierIsLost();
        earlierOfTheSameTick();
        unitTwice();
        everyUnitTwice();
        cutUnitTwice();
        beyondTheEnd();
        anotherEnd();
        sameEnd();
        endBeforeAUnit();
        lostWithTheFragment();
        lostAlone();
        wholeAtTheEnd();
        wholeInEveryOrder();
        leastWhole();
        largestWhole();
        protocolOfTheFirst();
        freeWhenWhole();
        fifteenTicks();
        fifteenTicksFromTheBeginning();
        ageOfANewOne();
        withoutDropping();
        segmentOfFive();
        Check.end();
    }

    private static int[] assembly(int source, int id, int units, int end, int age) {
        return new int[] {1, source, id, units, end, age};
    }

    private static void placeZero() {
        Check.sentence("A DATAGRAM with place 0 is whole.");
        Peer p = Peer.known();
        Check.due("place 0", p.datagram(9, 0, 1, 8, 1), 1);
        Check.row("no assembly", p.assemblyRow(0), FREE);
        Check.due("place 128", p.datagram(9, MORE, 1, 8, 1, 2, 3), 0);
        Check.due("place 0 beside it", p.datagram(9, 0, 1, 8, 1), 1);
        Check.row("the assembly stays", p.assemblyRow(0), assembly(3, 9, 1, -1, 0));
    }

    private static void places() {
        Check.sentence("its PLACE in units of 4 OCTETS (0..7; others are DROPPED)");
        for (int place = 1; place < MORE; place++) {
            Peer p = Peer.known();
            Check.due("an end at PLACE " + place, p.datagram(9, place, 1), place <= 7 ? 0 : -1);
            Check.row("assembly", p.assemblyRow(0), place <= 7 ? assembly(3, 9, 0, 4 * place, 0) : FREE);
        }
    }

    private static void placesWithMore() {
        Check.sentence("128 if more follows, and its PLACE (0..7; others are DROPPED)");
        for (int place = 0; place < MORE; place++) {
            Peer p = Peer.known();
            Check.due("more at PLACE " + place, p.datagram(9, MORE + place, 1, 1, 2, 3, 4), place <= 7 ? 0 : -1);
            Check.row("assembly", p.assemblyRow(0), place <= 7 ? assembly(3, 9, 1 << place, -1, 0) : FREE);
        }
    }

    private static void sizesWithMore() {
        Check.sentence("One with 128 has a PAYLOAD of 4, 8, .. OCTETS (Else it is DROPPED)");
        for (int size = 0; size <= 32; size++) {
            Peer p = Peer.known();
            boolean fits = size > 0 && size % 4 == 0;
            Check.due("more with " + size, p.datagram(9, MORE, 1, Peer.run(8, size)), fits ? 0 : -1);
            Check.row("assembly", p.assemblyRow(0), fits ? assembly(3, 9, (1 << (size / 4)) - 1, -1, 0) : FREE);
        }
    }

    private static void sizesOfEnds() {
        Check.sentence("one without says the end: 4 times its PLACE and the OCTETS of its PAYLOAD (perhaps none)");
        int[] units = {0, 2, 2, 2, 2, 6, 6, 6, 6, 14};
        for (int size = 0; size <= 9; size++) {
            Peer p = Peer.known();
            Check.due("an end with " + size, p.datagram(9, 1, 1, Peer.run(8, size)), 0);
            Check.row("assembly", p.assemblyRow(0), assembly(3, 9, units[size], 4 + size, 0));
        }
    }

    private static void reachOfEnds() {
        Check.sentence("No FRAGMENT may reach beyond OCTET 32: without 128");
        for (int place = 1; place <= 7; place++) {
            int room = 32 - 4 * place;
            Peer p = Peer.known();
            Check.due("PLACE " + place + " with " + (room + 1), p.datagram(9, place, 1, Peer.run(1, room + 1)), -1);
            Check.row("assembly", p.assemblyRow(0), FREE);
            Check.due("PLACE " + place + " with " + room, p.datagram(9, place, 1, Peer.run(1, room)), 0);
            Check.due("the end", p.host.assembly(0, 4), 32);
            Check.due("dropped", p.host.count(2), 1);
        }
    }

    private static void reachWithMore() {
        Check.sentence("No FRAGMENT may reach beyond OCTET 32: with 128");
        for (int place = 1; place <= 7; place++) {
            int room = 32 - 4 * place;
            Peer p = Peer.known();
            Check.due("PLACE " + place + " with " + (room + 4), p.datagram(9, MORE + place, 1, Peer.run(1, room + 4)), -1);
            Check.row("assembly", p.assemblyRow(0), FREE);
            Check.due("PLACE " + place + " with " + room, p.datagram(9, MORE + place, 1, Peer.run(1, room)), 0);
            Check.due("the units", p.host.assembly(0, 3), 256 - (1 << place));
            Check.due("dropped", p.host.count(2), 1);
        }
    }

    private static void belonging() {
        Check.sentence("FRAGMENTS (place not 0) of the same source and id belong together.");
        Peer p = Peer.known();
        p.datagram(0, MORE, 1, 8, 1, 2, 3);
        Check.due("another id", p.datagram(255, 1, 1, 4), 0);
        Check.row("the first", p.assemblyRow(0), assembly(3, 0, 1, -1, 0));
        Check.row("the second", p.assemblyRow(1), assembly(3, 255, 2, 5, 0));
        Peer q = Peer.known();
        q.datagram(9, MORE, 1, 8, 1, 2, 3);
        q.address = 4;
        Check.due("another source", q.datagram(9, 1, 1, 4), 0);
        Check.row("the first", q.assemblyRow(0), assembly(3, 9, 1, -1, 0));
        Check.row("the second", q.assemblyRow(1), assembly(4, 9, 2, 5, 0));
        q.address = 3;
        q.station = 5;
        Check.due("the same from another station", q.datagram(9, 1, 1, 4), 1);
        Check.row("the echo", q.sentPayload(0), 0, 1, 2, 3, 4);
    }

    private static void unitsOfTheFirst() {
        Check.sentence("one is begun by a FRAGMENT to which none belongs");
        Peer p = Peer.known();
        p.datagram(9, MORE + 2, 1, 1, 2, 3, 4);
        Check.row("units of another are not there", p.assemblyRow(0), assembly(3, 9, 4, -1, 0));
        p.datagram(9, MORE + 2, 1, 1, 2, 3, 4);
        Check.row("lost", p.assemblyRow(0), FREE);
        p.datagram(9, 1, 1, 5);
        Check.row("nothing of the lost one is there", p.assemblyRow(0), assembly(3, 9, 2, 5, 0));
        p.datagram(9, 1, 1, 5);
        p.datagram(9, MORE, 1, 8, 1, 2, 3);
        Check.row("no end of the lost one is there", p.assemblyRow(0), assembly(3, 9, 1, -1, 0));
    }

    private static void leastFree() {
        Check.sentence("(The one with the least number that is free is taken.)");
        Peer p = Peer.known();
        p.datagram(1, 7, 1);
        Check.due("the first", p.host.assembly(0, 2), 1);
        p.datagram(2, 7, 1);
        Check.due("the second", p.host.assembly(1, 2), 2);
        p.datagram(1, 6, 1);
        p.datagram(2, 6, 1);
        p.datagram(3, 7, 1);
        Check.due("both were free", p.host.assembly(0, 2), 3);
        Check.due("the other still is", p.host.assembly(1, 0), 0);
        p.datagram(4, 7, 1);
        p.datagram(3, 6, 1);
        p.datagram(5, 7, 1);
        Check.due("0 was free", p.host.assembly(0, 2), 5);
        p.datagram(4, 6, 1);
        p.datagram(6, 7, 1);
        Check.due("1 was free", p.host.assembly(1, 2), 6);
    }

    private static void earlierIsLost() {
        Check.sentence("if both are in use, the one begun earlier is lost");
        Peer p = Peer.known();
        p.datagram(1, MORE, 1, 8, 1, 2, 3);
        p.host.tick(1);
        p.datagram(2, 7, 1);
        p.datagram(1, MORE + 1, 1, 1, 2, 3, 4);
        Check.due("a third", p.datagram(3, 7, 1, 1), 0);
        Check.row("it took the place of the first", p.assemblyRow(0), assembly(3, 3, 128, 29, 0));
        Check.row("the second stays", p.assemblyRow(1), assembly(3, 2, 0, 28, 0));
        p.datagram(4, 7, 1);
        Check.due("a fourth took the place of the second", p.host.assembly(1, 2), 4);
        Check.due("the third stays", p.host.assembly(0, 2), 3);
        p.datagram(5, 7, 1);
        Check.due("a fifth took the place of the third", p.host.assembly(0, 2), 5);
        Check.due("the fourth stays", p.host.assembly(1, 2), 4);
        Check.due("dropped", p.host.count(2), 0);
    }

    private static void earlierOfTheSameTick() {
        Check.sentence("the one begun earlier, also if 1 was begun before 0");
        Peer p = Peer.known();
        p.datagram(1, 7, 1);
        p.datagram(2, 7, 1);
        p.datagram(1, 6, 1);
        p.datagram(3, 7, 1);
        Check.due("0 is the later one", p.host.assembly(0, 2), 3);
        p.datagram(4, 7, 1);
        Check.due("1 was the earlier one", p.host.assembly(1, 2), 4);
        Check.due("0 stays", p.host.assembly(0, 2), 3);
    }

    private static void unitTwice() {
        Check.sentence("If a unit of the FRAGMENT is there already: the ASSEMBLY is lost");
        int[][] overlaps = {{MORE, 8}, {MORE, 12}, {MORE, 16}, {MORE + 1, 4}, {MORE + 2, 4}, {MORE + 2, 8}, {2, 4}, {1, 12}};
        for (int[] o : overlaps) {
            Peer p = Peer.known();
            p.datagram(9, MORE + 1, 1, Peer.run(1, 8));
            Check.due("place " + o[0] + " with " + o[1], p.datagram(9, o[0], 1, Peer.run(1, o[1])), 0);
            Check.row("over units 1 and 2", p.assemblyRow(0), FREE);
        }
        Peer p = Peer.known();
        p.datagram(9, MORE + 1, 1, Peer.run(1, 8));
        p.datagram(9, MORE, 1, 1, 2, 3, 4);
        p.datagram(9, MORE + 3, 1, 1, 2, 3, 4);
        Check.row("beside them", p.assemblyRow(0), assembly(3, 9, 15, -1, 0));
    }

    private static void everyUnitTwice() {
        Check.sentence("If a unit of the FRAGMENT is there already: each of the 8");
        for (int unit = 0; unit < 8; unit++) {
            for (int other = 0; other < 8; other++) {
                Peer p = Peer.known();
                p.datagram(9, MORE + unit, 1, 1, 2, 3, 4);
                Check.due("unit " + other + " beside " + unit, p.datagram(9, MORE + other, 1, 1, 2, 3, 4), 0);
                Check.due("units", p.host.assembly(0, 3), unit == other ? 0 : (1 << unit) + (1 << other));
            }
        }
    }

    private static void cutUnitTwice() {
        Check.sentence("a unit of the FRAGMENT (its last one may be cut)");
        for (int size = 1; size <= 3; size++) {
            Peer p = Peer.known();
            p.datagram(9, 2, 1, Peer.run(1, size));
            Check.row("a cut unit is there", p.assemblyRow(0), assembly(3, 9, 4, 8 + size, 0));
            p.datagram(9, 2, 1, Peer.run(1, size));
            Check.row("the same again", p.assemblyRow(0), FREE);
            p.datagram(9, MORE + 2, 1, 1, 2, 3, 4);
            p.datagram(9, 2, 1, Peer.run(1, size));
            Check.row("a cut one over a whole one", p.assemblyRow(0), FREE);
            p.datagram(9, 1, 1, Peer.run(1, 4 + size));
            Check.row("a whole one and a cut one", p.assemblyRow(0), assembly(3, 9, 6, 8 + size, 0));
        }
    }

    private static void beyondTheEnd() {
        Check.sentence("or it reaches beyond an end that was said");
        Peer p = Peer.known();
        p.datagram(9, 3, 1);
        p.datagram(9, MORE + 2, 1, 1, 2, 3, 4);
        Check.row("up to the end", p.assemblyRow(0), assembly(3, 9, 4, 12, 0));
        p.datagram(9, MORE + 3, 1, 1, 2, 3, 4);
        Check.row("a unit behind it", p.assemblyRow(0), FREE);
        p.datagram(9, 3, 1);
        p.datagram(9, MORE + 2, 1, Peer.run(1, 8));
        Check.row("a unit before it and one behind", p.assemblyRow(0), FREE);
        p.datagram(9, 3, 1);
        p.datagram(9, MORE + 7, 1, 1, 2, 3, 4);
        Check.row("the last unit", p.assemblyRow(0), FREE);
        p.datagram(9, 7, 1);
        p.datagram(9, MORE + 7, 1, 1, 2, 3, 4);
        Check.row("the last unit behind 28", p.assemblyRow(0), FREE);
        p.datagram(9, 7, 1, 1, 2, 3, 4);
        p.datagram(9, MORE + 1, 1, Peer.run(1, 24));
        Check.row("all but the first below 32", p.assemblyRow(0), assembly(3, 9, 254, 32, 0));
    }

    private static void anotherEnd() {
        Check.sentence("or says another one");
        int[][] ends = {{1, 0}, {1, 1}, {1, 7}, {2, 0}, {2, 1}, {2, 3}, {3, 1}, {3, 4}, {4, 0}, {7, 4}};
        for (int[] e : ends) {
            Peer p = Peer.known();
            p.datagram(9, 3, 1);
            Check.due("an end of " + (4 * e[0] + e[1]) + " after one of 12", p.datagram(9, e[0], 1, Peer.run(1, e[1])), 0);
            Check.row("assembly", p.assemblyRow(0), FREE);
        }
    }

    private static void sameEnd() {
        Check.sentence("or says another one: the same one is none");
        Peer p = Peer.known();
        p.datagram(9, 3, 1);
        p.datagram(9, 3, 1);
        Check.row("said again", p.assemblyRow(0), assembly(3, 9, 0, 12, 0));
        p.datagram(9, 2, 1, 1, 2, 3, 4);
        Check.row("said with a unit", p.assemblyRow(0), assembly(3, 9, 4, 12, 0));
        p.datagram(9, 3, 1);
        Check.row("said again behind it", p.assemblyRow(0), assembly(3, 9, 4, 12, 0));
    }

    private static void endBeforeAUnit() {
        Check.sentence("or says one beyond which a unit that is there reaches");
        int[][] ends = {{1, 0}, {1, 3}, {1, 4}, {2, 0}};
        for (int[] e : ends) {
            Peer p = Peer.known();
            p.datagram(9, MORE + 2, 1, 1, 2, 3, 4);
            Check.due("an end of " + (4 * e[0] + e[1]), p.datagram(9, e[0], 1, Peer.run(1, e[1])), 0);
            Check.row("before a unit that ends at 12", p.assemblyRow(0), FREE);
        }
        Peer p = Peer.known();
        p.datagram(9, MORE + 2, 1, 1, 2, 3, 4);
        p.datagram(9, 3, 1);
        Check.row("an end of 12", p.assemblyRow(0), assembly(3, 9, 4, 12, 0));
        Peer q = Peer.known();
        q.datagram(9, MORE + 7, 1, 1, 2, 3, 4);
        q.datagram(9, 7, 1);
        Check.row("an end of 28 before a unit that ends at 32", q.assemblyRow(0), FREE);
    }

    private static void lostWithTheFragment() {
        Check.sentence("the ASSEMBLY is lost, with this FRAGMENT");
        Peer p = Peer.known();
        p.datagram(9, MORE, 1, 8, 1, 2, 3);
        p.datagram(9, MORE, 1, 8, 1, 2, 3);
        Check.row("it begins none", p.assemblyRow(0), FREE);
        Check.row("nor another", p.assemblyRow(1), FREE);
        Check.due("the end alone makes nothing whole", p.datagram(9, 1, 1, 4), 0);
        Check.due("with the first it does", p.datagram(9, MORE, 1, 8, 1, 2, 3), 1);
        Peer q = Peer.known();
        Check.due("a segment that is answered", q.datagram(9, 0, 6, 20, 7, 9, 16, 5), 1);
        Check.due("a fragment", q.datagram(9, MORE, 1, 8, 1, 2, 3), 0);
        Check.due("the same again is not answered", q.datagram(9, MORE, 1, 8, 1, 2, 3), 0);
    }

    private static void lostAlone() {
        Check.sentence("the ASSEMBLY is lost: the other one stays");
        Peer p = Peer.known();
        p.datagram(1, MORE, 1, 8, 1, 2, 3);
        p.datagram(2, MORE, 1, 8, 5, 6, 7);
        p.datagram(2, MORE, 1, 8, 5, 6, 7);
        Check.row("0 stays", p.assemblyRow(0), assembly(3, 1, 1, -1, 0));
        Check.row("1 is lost", p.assemblyRow(1), FREE);
        p.datagram(2, MORE, 1, 8, 5, 6, 7);
        p.datagram(1, MORE, 1, 8, 1, 2, 3);
        Check.row("0 is lost", p.assemblyRow(0), FREE);
        Check.row("1 stays", p.assemblyRow(1), assembly(3, 2, 1, -1, 0));
        Check.due("and becomes whole", p.datagram(2, 1, 1, 9), 1);
        Check.row("with its own octets", p.sentPayload(0), 0, 5, 6, 7, 9);
    }

    private static void wholeAtTheEnd() {
        Check.sentence("When all units up to the end are there, the DATAGRAM is whole");
        for (int missing = 0; missing < 7; missing++) {
            Peer p = Peer.known();
            for (int unit = 0; unit < 7; unit++) {
                if (unit != missing) {
                    p.datagram(9, MORE + unit, 1, 8, 0, 0, unit);
                }
            }
            Check.due("the end without unit " + missing, p.datagram(9, 7, 1, 7), 0);
            Check.due("unit " + missing, p.datagram(9, MORE + missing, 1, 8, 0, 0, missing), 2);
            Check.due("octets of the rest", p.sentPayload(0).length, 13);
        }
    }

    private static void wholeInEveryOrder() {
        Check.sentence("the DATAGRAM is whole, in whatever order its FRAGMENTS came");
        int[][] orders = {{0, 1, 2}, {0, 2, 1}, {1, 0, 2}, {1, 2, 0}, {2, 0, 1}, {2, 1, 0}};
        for (int[] order : orders) {
            Peer p = Peer.known();
            Check.due("first", fragment(p, order[0]), 0);
            Check.due("second", fragment(p, order[1]), 0);
            Check.due("third", fragment(p, order[2]), 1);
            Check.row("the echo", p.sentPayload(0), 0, 1, 2, 3, 4, 5, 6, 7, 8, 9);
            Check.row("the assembly", p.assemblyRow(0), FREE);
        }
    }

    private static int fragment(Peer p, int unit) {
        if (unit == 0) {
            return p.datagram(9, MORE, 1, 8, 1, 2, 3);
        }
        return unit == 1 ? p.datagram(9, MORE + 1, 1, 4, 5, 6, 7) : p.datagram(9, 2, 1, 8, 9);
    }

    private static void leastWhole() {
        Check.sentence("all units up to the end: the least end");
        Peer p = Peer.known();
        Check.due("an end of 4", p.datagram(9, 1, 1), 0);
        Check.due("the unit before it", p.datagram(9, MORE, 1, 8, 1, 2, 3), 1);
        Check.row("the echo", p.sentPayload(0), 0, 1, 2, 3);
        Check.due("the unit", p.datagram(9, MORE, 1, 8, 1, 2, 3), 0);
        Check.due("an end of 4 behind it", p.datagram(9, 1, 1), 1);
        Check.due("the unit", p.datagram(9, MORE, 1, 8, 1, 2, 3), 0);
        Check.due("an end of 5", p.datagram(9, 1, 1, 4), 1);
        Check.row("the echo", p.sentPayload(0), 0, 1, 2, 3, 4);
    }

    private static void largestWhole() {
        Check.sentence("all units up to the end: an end of 32");
        Peer p = Peer.known();
        Check.due("28", p.datagram(9, MORE, 1, Peer.run(8, 28)), 0);
        Check.due("the last unit with more", p.datagram(9, MORE + 7, 1, Peer.run(36, 4)), 0);
        Check.row("all units, but no end", p.assemblyRow(0), assembly(3, 9, 255, -1, 0));
        Check.due("no end can follow: PLACE 8", p.datagram(9, 8, 1), -1);
        Check.row("it waits", p.assemblyRow(0), assembly(3, 9, 255, -1, 0));
        Check.due("28 of another", p.datagram(10, MORE, 1, Peer.run(8, 28)), 0);
        Check.due("its last unit", p.datagram(10, 7, 1, Peer.run(36, 4)), 2);
        Check.row("the rest of the echo", p.sentPayload(0), Peer.run(24, 16));
    }

    private static void protocolOfTheFirst() {
        Check.sentence("with the protocol of the FRAGMENT of PLACE 0");
        Peer p = Peer.known();
        p.datagram(9, MORE, 1, 8, 1, 2, 3);
        Check.due("the end says 6", p.datagram(9, 1, 6, 4), 1);
        p.datagram(9, 1, 6, 4);
        Check.due("the end came first", p.datagram(9, MORE, 1, 8, 1, 2, 3), 1);
        p.datagram(9, MORE, 0, 8, 1, 2, 3);
        Check.due("the end says 1", p.datagram(9, 1, 1, 4), 0);
        Check.row("it was whole", p.assemblyRow(0), FREE);
    }

    private static void freeWhenWhole() {
        Check.sentence("and the ASSEMBLY is free");
        Peer p = Peer.known();
        p.datagram(1, 7, 1);
        p.datagram(9, MORE, 99, 8, 1, 2, 3);
        Check.due("whole, and nothing comes of it", p.datagram(9, 1, 99), 0);
        Check.row("free", p.assemblyRow(1), FREE);
        p.datagram(2, 7, 1);
        Check.due("it is taken", p.host.assembly(1, 2), 2);
        Check.due("the other stays", p.host.assembly(0, 2), 1);
    }

    private static void fifteenTicks() {
        Check.sentence("15 TICKS after it was begun an ASSEMBLY is lost.");
        Peer p = Peer.known();
        p.datagram(9, MORE, 1, 8, 1, 2, 3);
        p.host.tick(14);
        Check.row("after 14", p.assemblyRow(0), assembly(3, 9, 1, -1, 14));
        p.host.tick(1);
        Check.row("after 15", p.assemblyRow(0), FREE);
        Check.due("the end then", p.datagram(9, 1, 1, 4), 0);
        Check.row("begins another", p.assemblyRow(0), assembly(3, 9, 2, 5, 0));
        Peer q = Peer.known();
        q.datagram(9, MORE, 1, 8, 1, 2, 3);
        q.host.tick(14);
        Check.due("the end after 14", q.datagram(9, 1, 1, 4), 1);
    }

    private static void fifteenTicksFromTheBeginning() {
        Check.sentence("15 TICKS after it was begun, whatever came since");
        Peer p = Peer.known();
        p.datagram(9, MORE, 1, 8, 1, 2, 3);
        p.host.tick(10);
        p.datagram(9, MORE + 1, 1, 1, 2, 3, 4);
        p.datagram(10, MORE, 1, 8, 1, 2, 3);
        Check.due("a fragment does not begin it anew", p.host.assembly(0, 5), 10);
        p.host.tick(5);
        Check.row("lost", p.assemblyRow(0), FREE);
        Check.row("the other stays", p.assemblyRow(1), assembly(3, 10, 1, -1, 5));
        p.host.tick(9);
        Check.due("after 14", p.host.assembly(1, 5), 14);
        p.host.tick(1);
        Check.row("lost too", p.assemblyRow(1), FREE);
    }

    private static void ageOfANewOne() {
        Check.sentence("TICKS since it was begun");
        Peer p = Peer.known();
        p.host.tick(40);
        p.datagram(1, 7, 1);
        Check.due("begun late", p.host.assembly(0, 5), 0);
        p.host.tick(1);
        Check.due("a tick later", p.host.assembly(0, 5), 1);
        p.datagram(2, 7, 1);
        p.datagram(3, 7, 1);
        Check.due("begun where another was lost", p.host.assembly(0, 5), 0);
        p.host.tick(14);
        Check.due("14 ticks later", p.host.assembly(0, 5), 14);
        p.host.tick(40);
        Check.row("long lost", p.assemblyRow(0), FREE);
        Check.row("long lost", p.assemblyRow(1), FREE);
    }

    private static void withoutDropping() {
        Check.sentence("(All of this without DROPPING.)");
        Peer p = Peer.known();
        Check.due("begun", p.datagram(9, MORE + 1, 1, 1, 2, 3, 4), 0);
        Check.due("a unit again", p.datagram(9, MORE + 1, 1, 1, 2, 3, 4), 0);
        Check.due("an end", p.datagram(9, 2, 1), 0);
        Check.due("beyond it", p.datagram(9, MORE + 2, 1, 1, 2, 3, 4), 0);
        Check.due("an end", p.datagram(9, 2, 1), 0);
        Check.due("another end", p.datagram(9, 1, 1), 0);
        Check.due("a unit", p.datagram(9, MORE + 2, 1, 1, 2, 3, 4), 0);
        Check.due("an end before it", p.datagram(9, 2, 1), 0);
        Check.due("one", p.datagram(1, 7, 1), 0);
        Check.due("two", p.datagram(2, 7, 1), 0);
        Check.due("three", p.datagram(3, 7, 1), 0);
        p.host.tick(15);
        Check.row("counts", p.countRow(), 15, 12, 0, 0, 0, 0, 0, 0, 0);
    }

    private static void segmentOfFive() {
        Check.sentence("SEGMENT, with at least 5 OCTETS: of FRAGMENTS");
        Peer p = Peer.known();
        p.datagram(9, MORE, 6, 20, 7, 9, 16);
        Check.due("4 octets in all", p.datagram(9, 1, 6), 0);
        Check.due("frames sent", p.host.count(3), 0);
        p.datagram(9, MORE, 6, 20, 7, 9, 16);
        Check.due("5 octets in all", p.datagram(9, 1, 6, 5), 1);
        Check.row("RESET", p.sentPayload(0), 20, 9, 0, 4, 0);
    }
}
