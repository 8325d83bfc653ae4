import java.util.Arrays;

/** The other side of the wire: makes frames for a host, sums and all, and reads what it sent. */
final class Peer {
    static final int FIN = 1, SYN = 2, RESET = 4, ACK = 16;

    final WireHost host;
    int address = 3;
    int station = 3;
    int port = 20;

    Peer(WireHost host) {
        this.host = host;
    }

    /** A peer whose address 3 is known to a new host at station 3. */
    static Peer known() {
        Peer peer = new Peer(new WireHost());
        peer.frame(1, 3, 2, 3, 1);
        return peer;
    }

    /** A known peer with an open stream: its next number is 51, the host's is 1, its window as said. */
    static Peer open(int window) {
        Peer peer = known();
        peer.segment(50, 0, SYN, window);
        peer.segment(51, 1, ACK, window);
        return peer;
    }

    /** A peer of a new host that does not know it. */
    static Peer unknown() {
        return new Peer(new WireHost());
    }

    /** A known peer with an open stream of window 0 whose OUT is full: its next number is 83. */
    static Peer full() {
        Peer peer = open(0);
        peer.text(51, 1, ACK, 0, "\n".repeat(16));
        peer.text(67, 1, ACK, 0, "\n".repeat(16));
        return peer;
    }

    /** A known peer, an open stream of the same numbers as open(), and OUT with so many octets (2 to 18) to be sent. */
    static Peer waiting(int octets) {
        Peer peer = open(0);
        peer.store(0, "a", "0123456789abcdef".substring(0, octets - 2));
        peer.text(51, 1, ACK, 0, "Ga\n");
        return peer;
    }

    int frame(int... octets) {
        for (int octet : octets) {
            host.octet(octet);
        }
        return host.arrive();
    }

    int datagram(int id, int place, int protocol, int... payload) {
        return frame(datagramFrame(id, place, protocol, payload));
    }

    int[] datagramFrame(int id, int place, int protocol, int... payload) {
        int[] frame = new int[9 + payload.length];
        frame[0] = 1;
        frame[1] = station;
        frame[2] = 3;
        frame[3] = address;
        frame[4] = 1;
        frame[5] = id;
        frame[6] = place;
        frame[7] = protocol;
        System.arraycopy(payload, 0, frame, 9, payload.length);
        int sum = 0;
        for (int i = 3; i < frame.length; i++) {
            sum += frame[i];
        }
        frame[8] = (256 - sum % 256) % 256;
        return frame;
    }

    int segment(int number, int ack, int flags, int window, int... data) {
        int[] payload = new int[5 + data.length];
        payload[0] = port;
        payload[1] = number & 255;
        payload[2] = ack & 255;
        payload[3] = flags;
        payload[4] = window;
        System.arraycopy(data, 0, payload, 5, data.length);
        return datagram(0, 0, 6, payload);
    }

    int text(int number, int ack, int flags, int window, String data) {
        return segment(number, ack, flags, window, octets(data));
    }

    static int[] octets(String text) {
        return text.chars().toArray();
    }

    /** So many octets that count up from the first. */
    static int[] run(int first, int length) {
        int[] row = new int[length];
        for (int i = 0; i < length; i++) {
            row[i] = first + i;
        }
        return row;
    }

    /** The k-th frame that was sent, whole. */
    int[] sentFrame(int k) {
        int[] row = new int[64];
        int length = 0;
        int v = host.sent(k, 0);
        while (length < row.length && v >= 0) {
            row[length] = v;
            length++;
            v = host.sent(k, length);
        }
        return Arrays.copyOf(row, length);
    }

    /** What stands behind the sum in the k-th frame that was sent. */
    int[] sentPayload(int k) {
        int[] frame = sentFrame(k);
        return frame.length < 9 ? new int[0] : Arrays.copyOfRange(frame, 9, frame.length);
    }

    /** How many octets of data each of the latest frames had, the earliest of them first. */
    int[] sentSizes(int frames) {
        int[] sizes = new int[frames];
        for (int k = 0; k < frames; k++) {
            sizes[frames - 1 - k] = sentPayload(k).length - 5;
        }
        return sizes;
    }

    int[] streamRow(int s) {
        int[] row = new int[12];
        for (int what = 0; what < row.length; what++) {
            row[what] = host.stream(s, what);
        }
        return row;
    }

    int[] assemblyRow(int k) {
        int[] row = new int[6];
        for (int what = 0; what < row.length; what++) {
            row[what] = host.assembly(k, what);
        }
        return row;
    }

    int[] countRow() {
        int[] row = new int[9];
        for (int what = 0; what < row.length; what++) {
            row[what] = host.count(what);
        }
        return row;
    }

    void store(int t, String name, String body) {
        for (int c : octets(name)) {
            host.name(t, c);
        }
        for (int c : octets(body)) {
            host.body(t, c);
        }
    }
}
