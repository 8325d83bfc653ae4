/** A small host on a wire; ../shared/DOC.md says what each call answers. */
public final class WireHost {
    public static final int REFUSED = -1, FULL = -2;

    private static final int OWN = 1, EVERYONE = 15, ADDRESSES = 16;
    private static final int ASK = 1, TELL = 2, DATAGRAM = 3;

    // Where things stand in a frame.
    private static final int TO = 0, FROM = 1, KIND = 2, SOURCE = 3, GOAL = 4, ID = 5;
    private static final int PLACE = 6, PROTOCOL = 7, SUM = 8, PAYLOAD = 9;
    private static final int SHORT_FRAME = 5, LONGEST_FRAME = 41, FRAME_ROOM = 44, FRAMES_KEPT = 12;

    private static final int MORE = 128, UNIT = 4, UNITS = 8, PAYLOAD_ROOM = 32, PIECE = 16;
    private static final int ASSEMBLIES = 2, ASSEMBLY_LIFE = 15;
    private static final int ECHO = 1, ECHO_ASKED = 8, ECHO_ANSWERED = 0, SEGMENT = 6;

    private static final int TEXTS = 6, NAME_ROOM = 4, BODY_ROOM = 16;
    private static final int LINE_END = 10, LINE_ROOM = 7, GET = 71;
    private static final int FOUND = 50, MISSING = 52, SPOILED = 53, UNCLEAR = 48;

    // Where things stand in a segment, and its flags.
    private static final int PORT = 0, NUMBER = 1, ACK_NUMBER = 2, FLAGS = 3, WINDOW = 4, DATA = 5;
    private static final int FIN = 1, SYN = 2, RESET = 4, ACK = 16;

    private static final int STREAMS = 3, OUT_ROOM = 64, IN_ROOM = 16;
    private static final int GONE = 0, OPENING = 1, OPEN = 2, CLOSING = 3, LAST = 4;
    private static final int SEGMENT_DATA = 8, TOP_PACE = 4, TOP_TRIES = 3, FIRST_WAIT = 4, NUMBERS_A_TICK = 4;

    private static final int MOST_TICKS = 40;

    private final Arrival arrival;
    private final Gathering gathering;
    private final Datagram datagram;
    private final Streams streams;
    private int time, arrived, dropped;

    public WireHost() {
        arrival = new Arrival();
        gathering = new Gathering();
        datagram = new Datagram();
        streams = new Streams();
    }

    public int octet(int v) {
        if (!isOctet(v)) {
            return REFUSED;
        }
        if (arrival.length >= FRAME_ROOM) {
            return FULL;
        }
        arrival.octets[arrival.length] = v;
        arrival.length++;
        return arrival.length;
    }

    public int arrive() {
        int before = streams.wire.total;
        boolean fit = arrival.isFit();
        arrived++;
        if (!fit) {
            dropped++;
        } else if (arrival.octets[KIND] != DATAGRAM) {
            meetNeighbour();
        } else if (gathering.completes(arrival, datagram)) {
            if (datagram.isEchoAsked()) {
                datagram.payload[0] = ECHO_ANSWERED;
                streams.wire.sendPayload(datagram.source, ECHO, datagram.payload, datagram.length);
            } else if (datagram.isSegment()) {
                streams.take(datagram, time);
            }
        }
        arrival.length = 0;
        return fit ? streams.wire.total - before : -1;
    }

    public int tick(int n) {
        if (n < 1 || n > MOST_TICKS) {
            return REFUSED;
        }
        int before = streams.wire.total;
        for (int i = 0; i < n; i++) {
            time++;
            gathering.grow();
            for (int s = 0; s < STREAMS; s++) {
                streams.runTimer(streams.all[s]);
            }
        }
        return streams.wire.total - before;
    }

    public int sent(int k, int i) {
        return streams.wire.look(k, i);
    }

    public int name(int t, int c) {
        if (!isText(t) || !isLetter(c)) {
            return REFUSED;
        }
        return streams.shelf.texts[t].addLetter(c);
    }

    public int body(int t, int c) {
        if (!isText(t) || !isOctet(c)) {
            return REFUSED;
        }
        return streams.shelf.texts[t].addOctet(c);
    }

    public int spoil(int t, int i, int c) {
        if (!isText(t) || !isOctet(c)) {
            return REFUSED;
        }
        return streams.shelf.texts[t].replace(i, c);
    }

    public int erase(int t) {
        if (!isText(t)) {
            return REFUSED;
        }
        return streams.shelf.texts[t].empty();
    }

    public int known(int address) {
        if (address < 0 || address >= ADDRESSES) {
            return REFUSED;
        }
        return streams.wire.stations[address];
    }

    public int stream(int s, int what) {
        if (s < 0 || s >= STREAMS) {
            return REFUSED;
        }
        return streams.all[s].tell(what);
    }

    public int assembly(int k, int what) {
        if (k < 0 || k >= ASSEMBLIES) {
            return REFUSED;
        }
        return gathering.all[k].tell(what);
    }

    public int count(int what) {
        switch (what) {
            case 0: return time;
            case 1: return arrived;
            case 2: return dropped;
            case 3: return streams.wire.total;
            case 4: return streams.wire.ids;
            case 5: return streams.begun;
            case 6: return streams.lines;
            case 7: return arrival.length;
            case 8: return streams.again;
            default: return REFUSED;
        }
    }

    private void meetNeighbour() {
        int[] f = arrival.octets;
        if (f[GOAL] != OWN) {
            return;
        }
        streams.wire.stations[f[SOURCE]] = f[FROM];
        if (f[KIND] == ASK) {
            streams.wire.sendShort(f[FROM], TELL, f[SOURCE]);
        }
    }

    private static boolean isOctet(int v) {
        return v >= 0 && v <= 255;
    }

    private static boolean isLetter(int c) {
        return c >= 97 && c <= 122;
    }

    private static boolean isText(int t) {
        return t >= 0 && t < TEXTS;
    }

    // A sum of 2^unit, since assembly() answers units so and sets of them are compared at once.
    private static int unitsUpTo(int octets) {
        int units = (octets + UNIT - 1) / UNIT;
        return (1 << units) - 1;
    }

    private static final class Arrival {
        final int[] octets = new int[FRAME_ROOM];
        int length;

        boolean isFit() {
            if (length < SHORT_FRAME || length > LONGEST_FRAME) {
                return false;
            }
            boolean forHost = octets[TO] == OWN || octets[TO] == EVERYONE;
            if (!forHost || octets[FROM] >= EVERYONE) {
                return false;
            }
            if (octets[SOURCE] >= ADDRESSES || octets[GOAL] >= ADDRESSES) {
                return false;
            }
            if (octets[KIND] == ASK || octets[KIND] == TELL) {
                return length == SHORT_FRAME;
            }
            return octets[KIND] == DATAGRAM && isFitDatagram();
        }

        private boolean isFitDatagram() {
            return length >= PAYLOAD && octets[GOAL] == OWN && sumsToZero() && (isWhole() || isFitFragment());
        }

        private boolean sumsToZero() {
            int sum = 0;
            for (int i = SOURCE; i < length; i++) {
                sum += octets[i];
            }
            return (sum & 255) == 0;
        }

        private boolean isFitFragment() {
            if (unit() >= UNITS || reach() > PAYLOAD_ROOM) {
                return false;
            }
            return isEnd() || size() > 0 && size() % UNIT == 0;
        }

        boolean isWhole() {
            return octets[PLACE] == 0;
        }

        boolean isEnd() {
            return octets[PLACE] < MORE;
        }

        int unit() {
            return octets[PLACE] & (MORE - 1);
        }

        int size() {
            return length - PAYLOAD;
        }

        int reach() {
            return UNIT * unit() + size();
        }

        int units() {
            return unitsUpTo(size()) << unit();
        }
    }

    // One object takes every whole datagram in turn, so that no call makes a new one.
    private static final class Datagram {
        final int[] payload = new int[PAYLOAD_ROOM];
        int source, protocol, length;

        void fill(int newSource, int newProtocol, int[] row, int from, int size) {
            source = newSource;
            protocol = newProtocol;
            length = size;
            for (int i = 0; i < size; i++) {
                payload[i] = row[from + i];
            }
        }

        boolean isEchoAsked() {
            return protocol == ECHO && length > 0 && payload[0] == ECHO_ASKED;
        }

        boolean isSegment() {
            return protocol == SEGMENT && length >= DATA;
        }

        boolean hasFlag(int flags) {
            return (payload[FLAGS] & flags) != 0;
        }

        boolean wantsAck() {
            return length > DATA || hasFlag(FIN);
        }
    }

    private static final class Assembly {
        final int[] octets = new int[PAYLOAD_ROOM];
        boolean inUse;
        int source, id, protocol, units, end, age;

        void begin(int newSource, int newId) {
            inUse = true;
            source = newSource;
            id = newId;
            protocol = 0;
            units = 0;
            end = -1;
            age = 0;
        }

        boolean isOf(Arrival f) {
            return inUse && source == f.octets[SOURCE] && id == f.octets[ID];
        }

        boolean clashesWith(Arrival f) {
            int reach = f.reach();
            if ((units & f.units()) != 0) {
                return true;
            }
            if (end >= 0 && (reach > end || f.isEnd() && reach != end)) {
                return true;
            }
            // Before an end is said all units are full, so the unit in which the end lies is beyond it too.
            return f.isEnd() && (units >> (reach / UNIT)) != 0;
        }

        void put(Arrival f) {
            int start = UNIT * f.unit();
            for (int i = 0; i < f.size(); i++) {
                octets[start + i] = f.octets[PAYLOAD + i];
            }
            units |= f.units();
            if (f.unit() == 0) {
                protocol = f.octets[PROTOCOL];
            }
            if (f.isEnd()) {
                end = f.reach();
            }
        }

        boolean isComplete() {
            return end >= 0 && units == unitsUpTo(end);
        }

        int tell(int what) {
            int answer;
            switch (what) {
                case 0: answer = 1; break;
                case 1: answer = source; break;
                case 2: answer = id; break;
                case 3: answer = units; break;
                case 4: answer = end; break;
                case 5: answer = age; break;
                default: return REFUSED;
            }
            return inUse ? answer : 0;
        }
    }

    private static final class Gathering {
        final Assembly[] all = new Assembly[ASSEMBLIES];
        private int newest;

        Gathering() {
            for (int k = 0; k < ASSEMBLIES; k++) {
                all[k] = new Assembly();
            }
        }

        boolean completes(Arrival f, Datagram whole) {
            if (f.isWhole()) {
                whole.fill(f.octets[SOURCE], f.octets[PROTOCOL], f.octets, PAYLOAD, f.size());
                return true;
            }
            Assembly a = all[placeFor(f)];
            if (a.clashesWith(f)) {
                a.inUse = false;
                return false;
            }
            a.put(f);
            if (!a.isComplete()) {
                return false;
            }
            a.inUse = false;
            whole.fill(a.source, a.protocol, a.octets, 0, a.end);
            return true;
        }

        private int placeFor(Arrival f) {
            for (int k = 0; k < ASSEMBLIES; k++) {
                if (all[k].isOf(f)) {
                    return k;
                }
            }
            // With both in use, the one that is not the newest was begun earlier.
            int free = ASSEMBLIES - 1 - newest;
            for (int k = ASSEMBLIES - 1; k >= 0; k--) {
                if (!all[k].inUse) {
                    free = k;
                }
            }
            all[free].begin(f.octets[SOURCE], f.octets[ID]);
            newest = free;
            return free;
        }

        void grow() {
            for (int k = 0; k < ASSEMBLIES; k++) {
                Assembly a = all[k];
                a.age++;
                if (a.age >= ASSEMBLY_LIFE) {
                    a.inUse = false;
                }
            }
        }
    }

    private static final class Wire {
        final int[] stations = new int[ADDRESSES];
        private final int[][] frames = new int[FRAMES_KEPT][LONGEST_FRAME];
        private final int[] lengths = new int[FRAMES_KEPT];
        private int latest;
        int total, ids;

        Wire() {
            for (int a = 0; a < ADDRESSES; a++) {
                stations[a] = REFUSED;
            }
        }

        int look(int k, int i) {
            if (k < 0 || k >= FRAMES_KEPT || k >= total) {
                return REFUSED;
            }
            int row = (latest + FRAMES_KEPT - k) % FRAMES_KEPT;
            if (i < 0 || i >= lengths[row]) {
                return REFUSED;
            }
            return frames[row][i];
        }

        void sendShort(int to, int kind, int address) {
            int[] f = nextFrame(SHORT_FRAME);
            f[TO] = to;
            f[FROM] = OWN;
            f[KIND] = kind;
            f[SOURCE] = OWN;
            f[GOAL] = address;
        }

        void sendPayload(int address, int protocol, int[] payload, int length) {
            if (stations[address] == REFUSED) {
                sendShort(EVERYONE, ASK, address);
                return;
            }
            if (length > PIECE) {
                sendPiece(address, protocol, payload, 0, PIECE, MORE);
                sendPiece(address, protocol, payload, PIECE, length, PIECE / UNIT);
            } else {
                sendPiece(address, protocol, payload, 0, length, 0);
            }
            ids++;
        }

        private void sendPiece(int address, int protocol, int[] payload, int from, int upTo, int place) {
            int[] f = nextFrame(PAYLOAD + upTo - from);
            f[TO] = stations[address];
            f[FROM] = OWN;
            f[KIND] = DATAGRAM;
            f[SOURCE] = OWN;
            f[GOAL] = address;
            f[ID] = ids & 255;
            f[PLACE] = place;
            f[PROTOCOL] = protocol;
            int sum = OWN + address + f[ID] + place + protocol;
            for (int i = from; i < upTo; i++) {
                f[PAYLOAD + i - from] = payload[i];
                sum += payload[i];
            }
            f[SUM] = (-sum) & 255;
        }

        private int[] nextFrame(int length) {
            latest = (latest + 1) % FRAMES_KEPT;
            lengths[latest] = length;
            total++;
            return frames[latest];
        }
    }

    private static final class Text {
        private final int[] letters = new int[NAME_ROOM];
        final int[] octets = new int[BODY_ROOM];
        private int nameLength, check;
        int length;

        int addLetter(int c) {
            if (nameLength >= NAME_ROOM) {
                return FULL;
            }
            letters[nameLength] = c;
            nameLength++;
            return nameLength;
        }

        int addOctet(int c) {
            if (length >= BODY_ROOM) {
                return FULL;
            }
            octets[length] = c;
            length++;
            check = (check + c) & 255;
            return length;
        }

        int replace(int i, int c) {
            if (i < 0 || i >= length) {
                return REFUSED;
            }
            int before = octets[i];
            octets[i] = c;
            return before;
        }

        int empty() {
            int before = length;
            nameLength = 0;
            length = 0;
            check = 0;
            return before;
        }

        // The name stands in the line between its first octet and its end.
        boolean isAskedBy(int[] line, int lineLength) {
            if (nameLength != lineLength - 2) {
                return false;
            }
            for (int i = 0; i < nameLength; i++) {
                if (letters[i] != line[1 + i]) {
                    return false;
                }
            }
            return true;
        }

        boolean isSound() {
            int sum = 0;
            for (int i = 0; i < length; i++) {
                sum += octets[i];
            }
            return (sum & 255) == check;
        }
    }

    // The answer is written before it is known whether OUT has room for it, so it has a row of its own.
    private static final class Shelf {
        final Text[] texts = new Text[TEXTS];
        final int[] answer = new int[BODY_ROOM + 2];
        int answerLength;

        Shelf() {
            for (int t = 0; t < TEXTS; t++) {
                texts[t] = new Text();
            }
        }

        void answerTo(int[] line, int lineLength) {
            answerLength = 0;
            if (!isRequest(line, lineLength)) {
                put(UNCLEAR);
            } else {
                putText(find(line, lineLength));
            }
            put(LINE_END);
        }

        private static boolean isRequest(int[] line, int lineLength) {
            if (lineLength < 3 || lineLength > NAME_ROOM + 2) {
                return false;
            }
            for (int i = 1; i < lineLength - 1; i++) {
                if (!isLetter(line[i])) {
                    return false;
                }
            }
            return line[0] == GET && line[lineLength - 1] == LINE_END;
        }

        private Text find(int[] line, int lineLength) {
            for (int t = 0; t < TEXTS; t++) {
                if (texts[t].isAskedBy(line, lineLength)) {
                    return texts[t];
                }
            }
            return null;
        }

        private void putText(Text text) {
            if (text == null) {
                put(MISSING);
            } else if (!text.isSound()) {
                put(SPOILED);
            } else {
                put(FOUND);
                for (int i = 0; i < text.length; i++) {
                    put(text.octets[i]);
                }
            }
        }

        private void put(int v) {
            answer[answerLength] = v;
            answerLength++;
        }
    }

    private static final class Stream {
        final int[] out = new int[OUT_ROOM];
        final int[] in = new int[IN_ROOM];
        int state, address, port, next, first, sent, outLength, inLength, window, pace, tries, timer;

        void begin(Datagram d, int number) {
            state = OPENING;
            address = d.source;
            port = d.payload[PORT];
            next = (d.payload[NUMBER] + 1) & 255;
            first = number;
            sent = number;
            outLength = 0;
            inLength = 0;
            window = d.payload[WINDOW];
            pace = 1;
            tries = 0;
            timer = 0;
        }

        int onTheWay() {
            return (sent - first) & 255;
        }

        void goOn(int numbers) {
            if (first == sent) {
                timer = 0;
            }
            sent = (sent + numbers) & 255;
        }

        boolean tickEndsTimer() {
            if (state == GONE || first == sent) {
                return false;
            }
            timer++;
            return timer >= FIRST_WAIT << tries;
        }

        void goBack() {
            tries++;
            pace = 1;
            timer = 0;
            sent = first;
            if (state == LAST) {
                state = CLOSING;
            }
        }

        private void acknowledge(int ack) {
            int amount = (ack - first) & 255;
            if (amount < 1 || amount > onTheWay()) {
                return;
            }
            first = ack;
            pace = Math.min(pace + 1, TOP_PACE);
            tries = 0;
            timer = 0;
            if (state == OPENING) {
                state = OPEN;
                return;
            }
            // In LAST one number more than OUT has octets may be acknowledged: that of FIN.
            outLength = removeFirst(out, outLength, Math.min(amount, outLength));
            if (state == LAST && first == sent) {
                state = GONE;
            }
        }

        // False if nothing more is to be done: it is gone, or still opening.
        boolean follow(Datagram d) {
            acknowledge(d.payload[ACK_NUMBER]);
            if (state == GONE) {
                return false;
            }
            window = d.payload[WINDOW];
            if (state == OPENING) {
                return false;
            }
            takeIn(d);
            return true;
        }

        private void takeIn(Datagram d) {
            if (state != OPEN || d.payload[NUMBER] != next) {
                return;
            }
            int size = d.length - DATA;
            int taken = Math.min(size, IN_ROOM - inLength);
            for (int i = 0; i < taken; i++) {
                in[inLength + i] = d.payload[DATA + i];
            }
            inLength += taken;
            next = (next + taken) & 255;
            if (taken == size && d.hasFlag(FIN)) {
                next = (next + 1) & 255;
                state = CLOSING;
            }
        }

        // 0 if IN begins with no line yet.
        int lineLength() {
            int seen = Math.min(inLength, LINE_ROOM);
            for (int i = 0; i < seen; i++) {
                if (in[i] == LINE_END) {
                    return i + 1;
                }
            }
            return seen == LINE_ROOM ? LINE_ROOM : 0;
        }

        void replaceLine(int lineLength, int[] answer, int answerLength) {
            inLength = removeFirst(in, inLength, lineLength);
            for (int i = 0; i < answerLength; i++) {
                out[outLength + i] = answer[i];
            }
            outLength += answerLength;
        }

        // WINDOW may have become less than what is on the way, and then nothing may be sent.
        int nextSegmentSize() {
            int allowed = Math.min(window, SEGMENT_DATA * pace) - onTheWay();
            int waiting = outLength - onTheWay();
            return Math.max(0, Math.min(SEGMENT_DATA, Math.min(allowed, waiting)));
        }

        boolean canEnd() {
            return state == CLOSING && onTheWay() == outLength && lineLength() == 0;
        }

        int tell(int what) {
            int answer;
            switch (what) {
                case 0: answer = state; break;
                case 1: answer = address; break;
                case 2: answer = port; break;
                case 3: answer = next; break;
                case 4: answer = first; break;
                case 5: answer = sent; break;
                case 6: answer = outLength; break;
                case 7: answer = inLength; break;
                case 8: answer = window; break;
                case 9: answer = pace; break;
                case 10: answer = tries; break;
                case 11: answer = timer; break;
                default: return REFUSED;
            }
            return state == GONE ? 0 : answer;
        }

        private static int removeFirst(int[] row, int length, int removed) {
            int left = length - removed;
            for (int i = 0; i < left; i++) {
                row[i] = row[removed + i];
            }
            return left;
        }
    }

    private static final class Streams {
        final Stream[] all = new Stream[STREAMS];
        final Wire wire = new Wire();
        final Shelf shelf = new Shelf();
        private final int[] segment = new int[DATA + SEGMENT_DATA];
        int begun, lines, again;

        Streams() {
            for (int s = 0; s < STREAMS; s++) {
                all[s] = new Stream();
            }
        }

        void take(Datagram d, int time) {
            Stream s = find(d.source, d.payload[PORT]);
            if (s == null) {
                meetStranger(d, time);
            } else if (d.hasFlag(RESET)) {
                if (d.payload[NUMBER] == s.next) {
                    s.state = GONE;
                }
            } else if (d.hasFlag(SYN)) {
                send(s, ACK, 0);
            } else if (d.hasFlag(ACK) && s.follow(d)) {
                boolean pushed = false;
                if (s.state != LAST) {
                    read(s);
                    pushed = push(s);
                }
                if (d.wantsAck() && !pushed) {
                    send(s, ACK, 0);
                }
            }
        }

        private Stream find(int address, int port) {
            for (int s = 0; s < STREAMS; s++) {
                if (all[s].state != GONE && all[s].address == address && all[s].port == port) {
                    return all[s];
                }
            }
            return null;
        }

        private Stream findFree() {
            for (int s = 0; s < STREAMS; s++) {
                if (all[s].state == GONE) {
                    return all[s];
                }
            }
            return null;
        }

        private void meetStranger(Datagram d, int time) {
            if (d.hasFlag(RESET)) {
                return;
            }
            boolean opens = d.hasFlag(SYN) && !d.hasFlag(ACK | FIN) && d.length == DATA;
            Stream s = opens ? findFree() : null;
            if (s == null) {
                sendReset(d.source, d.payload[PORT], d.payload[ACK_NUMBER]);
                return;
            }
            s.begin(d, (NUMBERS_A_TICK * time) & 255);
            begun++;
            send(s, SYN | ACK, 0);
        }

        private void read(Stream s) {
            // Each line takes an octet of IN at least.
            for (int i = 0; i < IN_ROOM; i++) {
                int lineLength = s.lineLength();
                if (lineLength == 0) {
                    return;
                }
                shelf.answerTo(s.in, lineLength);
                if (s.outLength + shelf.answerLength > OUT_ROOM) {
                    return;
                }
                s.replaceLine(lineLength, shelf.answer, shelf.answerLength);
                lines++;
            }
        }

        // True if something was sent, for then no ACK alone is due.
        private boolean push(Stream s) {
            boolean pushed = false;
            int size = s.nextSegmentSize();
            // Each segment takes an octet of OUT at least.
            for (int i = 0; i < OUT_ROOM && size > 0; i++) {
                send(s, ACK, size);
                pushed = true;
                size = s.nextSegmentSize();
            }
            if (s.canEnd()) {
                s.inLength = 0;
                send(s, FIN | ACK, 0);
                s.state = LAST;
                pushed = true;
            }
            return pushed;
        }

        private void send(Stream s, int flags, int size) {
            segment[PORT] = s.port;
            segment[NUMBER] = s.sent;
            segment[ACK_NUMBER] = s.next;
            segment[FLAGS] = flags;
            segment[WINDOW] = IN_ROOM - s.inLength;
            int from = s.onTheWay();
            for (int i = 0; i < size; i++) {
                segment[DATA + i] = s.out[from + i];
            }
            wire.sendPayload(s.address, SEGMENT, segment, DATA + size);
            s.goOn((flags & (SYN | FIN)) != 0 ? size + 1 : size);
        }

        private void sendReset(int address, int port, int number) {
            segment[PORT] = port;
            segment[NUMBER] = number;
            segment[ACK_NUMBER] = 0;
            segment[FLAGS] = RESET;
            segment[WINDOW] = 0;
            wire.sendPayload(address, SEGMENT, segment, DATA);
        }

        void runTimer(Stream s) {
            if (!s.tickEndsTimer()) {
                return;
            }
            if (s.tries >= TOP_TRIES) {
                sendReset(s.address, s.port, s.sent);
                s.state = GONE;
                return;
            }
            s.goBack();
            again++;
            if (s.state == OPENING) {
                send(s, SYN | ACK, 0);
            } else {
                push(s);
            }
        }
    }
}
