/** A router of packets of version 4: see README.md, and the document for its sixteen promises. */
public final class RouteHouse {
    public static final int NONE = -1;

    private static final int PORTS = 8;
    private static final int LEAST_MTU = 100;
    private static final int MOST_MTU = 1500;
    private static final int MOST_ROUTES = 400;
    private static final int MOST_TAPE = 2000;
    private static final int MOST_TOKENS = 6;
    private static final int TOKEN_EVERY = 10;
    private static final int LONGEST_WAIT = 30;
    private static final int MOST_WAITING = 4;
    private static final int MOST_PASS = 100;

    private static final int BARE_HEADER = 20;
    private static final int LONGEST_HEADER = 60;
    private static final int LENGTH_PLACE = 2;
    private static final int IDENTITY_PLACE = 4;
    private static final int CUT_PLACE = 6;
    private static final int HOPS_PLACE = 8;
    private static final int PROTOCOL_PLACE = 9;
    private static final int SUM_PLACE = 10;
    private static final int SOURCE_PLACE = 12;
    private static final int DESTINATION_PLACE = 16;
    private static final int UNCUT = 0x4000;
    private static final int MORE = 0x2000;
    private static final int OFFSET = 0x1fff;

    private static final int UNIT = 8;
    private static final int MOST_WHOLE_DATA = 4000;
    private static final int QUOTED_DATA = 8;
    private static final int LAST_BYTE = 65535;

    private static final int CONTROL = 1;
    private static final int DATAGRAM = 17;
    private static final int REQUEST = 8;
    private static final int REQUEST_LEAST = 8;
    private static final int ANSWER = 0;
    private static final int OWN_HOPS = 64;

    private static final int UNREACHABLE = 3;
    private static final int TIME_IS_OVER = 11;
    private static final int WRONG_PLACE = 12;

    private final Port[] ports;
    private final Routes routes;
    private final Packet tape;
    private final Packet whole;
    private final Packet reply;
    private final Outbox outbox;
    private final Waits waits;
    private final Delivery delivery;
    private int tokens;
    private int replies;
    private int time;

    public RouteHouse() {
        ports = new Port[PORTS];
        for (int i = 0; i < PORTS; i++) {
            ports[i] = new Port();
        }
        routes = new Routes();
        tape = new Packet(MOST_TAPE);
        whole = new Packet(LONGEST_HEADER + MOST_WHOLE_DATA);
        reply = new Packet(BARE_HEADER + MOST_WHOLE_DATA);
        outbox = new Outbox();
        waits = new Waits();
        delivery = new Delivery();
        tokens = MOST_TOKENS;
    }

    public void port(int port, int address, int mtu) throws IndexOutOfBoundsException, IllegalArgumentException {
        refuseStrangePort(port);
        if (mtu < LEAST_MTU || mtu > MOST_MTU) {
            throw new IllegalArgumentException("no such mtu");
        }
        ports[port].address = address;
        ports[port].mtu = mtu;
    }

    public boolean up(int port, boolean up) throws IndexOutOfBoundsException {
        refuseStrangePort(port);
        boolean was = ports[port].isUp;
        ports[port].isUp = up;
        return was;
    }

    public int route(int address, int bits, int port, int next)
            throws IllegalArgumentException, IndexOutOfBoundsException, UnsupportedOperationException {
        refuseStrangeBits(bits);
        refuseStrangePort(port);
        int at = routes.find(address, bits);
        if (at == NONE && routes.count >= MOST_ROUTES) {
            throw new UnsupportedOperationException("too many routes");
        }
        routes.put(at, address, bits, port, next);
        return routes.count;
    }

    public boolean unroute(int address, int bits) throws IllegalArgumentException {
        refuseStrangeBits(bits);
        int at = routes.find(address, bits);
        if (at == NONE) {
            return false;
        }
        routes.remove(at);
        return true;
    }

    public int lookup(int address, int what) throws IllegalArgumentException {
        if (what < 0 || what > 2) {
            throw new IllegalArgumentException("no such question about a route");
        }
        int at = routes.longest(address);
        if (at == NONE) {
            return what == 2 ? 0 : NONE;
        }
        if (what == 0) {
            return routes.ways[at];
        }
        return what == 1 ? routes.bits[at] : routes.nexts[at];
    }

    public int feed(int a, int b, int c, int d, int e) throws IllegalStateException {
        int at = tape.count;
        if (at + 20 > MOST_TAPE) {
            throw new IllegalStateException("the tape is full");
        }
        Wire.setFour(tape.row, at, a);
        Wire.setFour(tape.row, at + 4, b);
        Wire.setFour(tape.row, at + 8, c);
        Wire.setFour(tape.row, at + 12, d);
        Wire.setFour(tape.row, at + 16, e);
        tape.count = at + 20;
        return tape.count;
    }

    public void end(int n) throws IllegalArgumentException {
        if (n < 0 || n > tape.count) {
            throw new IllegalArgumentException("the tape has not so many bytes");
        }
        tape.count = n;
    }

    public void sum(int words) throws IllegalArgumentException {
        if (words < 5 || words > 15 || words * 4 > tape.count) {
            throw new IllegalArgumentException("no header of so many words");
        }
        Wire.setTwo(tape.row, SUM_PLACE, Wire.sumOf(tape.row, 0, words * 4, SUM_PLACE));
    }

    public int copy(int i) throws IndexOutOfBoundsException {
        refuseStrangePacket(i);
        tape.count = outbox.lengths[i];
        System.arraycopy(outbox.bytes, outbox.starts[i], tape.row, 0, tape.count);
        return tape.count;
    }

    public int receive(int port) throws IndexOutOfBoundsException {
        refuseStrangePort(port);
        outbox.empty();
        int outcome = tape.headerFault();
        if (outcome == 0) {
            outcome = takeSound(port);
        }
        tape.count = 0;
        return outcome;
    }

    public int pass(int n) throws IllegalArgumentException {
        if (n < 0 || n > MOST_PASS) {
            throw new IllegalArgumentException("no such time to pass");
        }
        outbox.empty();
        for (int i = 0; i < n; i++) {
            passOne();
        }
        return outbox.count;
    }

    public int sent(int i, int what) throws IndexOutOfBoundsException, IllegalArgumentException {
        refuseStrangePacket(i);
        switch (what) {
            case 0: return outbox.lengths[i];
            case 1: return outbox.ways[i];
            case 2: return outbox.nexts[i];
            default: throw new IllegalArgumentException("no such question about a packet");
        }
    }

    public int out(int i, int k) throws IndexOutOfBoundsException {
        refuseStrangePacket(i);
        if (k < 0 || k >= outbox.lengths[i]) {
            throw new IndexOutOfBoundsException("no such byte");
        }
        return outbox.bytes[outbox.starts[i] + k] & 255;
    }

    public int data(int k) {
        return k < 0 || k >= delivery.count ? NONE : delivery.bytes[k] & 255;
    }

    public int about(int what) throws IllegalArgumentException {
        switch (what) {
            case 0: return routes.count;
            case 1: return outbox.count;
            case 2: return waits.count;
            case 3: return tokens;
            case 4: return replies;
            case 5: return time;
            case 6: return delivery.times;
            case 7: return delivery.source;
            case 8: return delivery.destination;
            case 9: return delivery.count;
            case 10: return tape.count;
            default: throw new IllegalArgumentException("no such question");
        }
    }

    private void refuseStrangePort(int port) {
        if (port < 0 || port >= PORTS) {
            throw new IndexOutOfBoundsException("no such port");
        }
    }

    private void refuseStrangePacket(int i) {
        if (i < 0 || i >= outbox.count) {
            throw new IndexOutOfBoundsException("no such packet");
        }
    }

    private void refuseStrangeBits(int bits) {
        if (bits < 0 || bits > 32) {
            throw new IllegalArgumentException("no such beginning");
        }
    }

    private int takeSound(int port) {
        int wrong = tape.wrongOption();
        if (wrong != NONE) {
            sendError(tape, port, WRONG_PLACE, 0, wrong << 24);
            return 7;
        }
        return isOwnAddress(tape.destination()) ? takeOwn(port) : sendOn(port);
    }

    private boolean isOwnAddress(int address) {
        if (address == 0) {
            return false;
        }
        for (int i = 0; i < PORTS; i++) {
            if (ports[i].address == address) {
                return true;
            }
        }
        return false;
    }

    private int takeOwn(int port) {
        Packet packet = tape;
        if (tape.isPiece()) {
            if (!waits.completes(tape, port, time, whole)) {
                return 10;
            }
            packet = whole;
        }
        int protocol = packet.protocol();
        if (protocol == DATAGRAM) {
            delivery.take(packet);
            return 13;
        }
        if (protocol != CONTROL) {
            sendError(packet, port, UNREACHABLE, 2, 0);
            return 14;
        }
        if (!packet.isRequest()) {
            return 12;
        }
        sendAnswer(packet, port);
        return 11;
    }

    private int sendOn(int port) {
        int destination = tape.destination();
        int first = destination >>> 24;
        if (first == 0 || first == 127 || first > 223) {
            return 20;
        }
        int hops = tape.hops();
        if (hops < 2) {
            sendError(tape, port, TIME_IS_OVER, 0, 0);
            return 21;
        }
        int at = routes.longest(destination);
        if (at == NONE) {
            sendError(tape, port, UNREACHABLE, 0, 0);
            return 22;
        }
        int way = routes.ways[at];
        if (!ports[way].isUp) {
            sendError(tape, port, UNREACHABLE, 1, 0);
            return 23;
        }
        int mtu = ports[way].mtu;
        boolean isTooLong = tape.length() > mtu;
        if (isTooLong && tape.isUncut()) {
            sendError(tape, port, UNREACHABLE, 4, mtu);
            return 24;
        }
        tape.row[HOPS_PLACE] = (byte) (hops - 1);
        outbox.send(tape, mtu, way, routes.nexts[at] == 0 ? destination : routes.nexts[at]);
        return isTooLong ? 26 : 25;
    }

    private void sendError(Packet packet, int port, int type, int code, int rest) {
        if (!ports[port].isUp || tokens == 0 || !packet.mayHaveError()) {
            return;
        }
        tokens--;
        int quoted = packet.headerLength() + Math.min(QUOTED_DATA, packet.dataLength());
        Wire.setFour(reply.row, BARE_HEADER, type << 24 | code << 16);
        Wire.setFour(reply.row, BARE_HEADER + 4, rest);
        System.arraycopy(packet.row, 0, reply.row, BARE_HEADER + 8, quoted);
        sendReply(8 + quoted, port, ports[port].address, packet.source());
    }

    private void sendAnswer(Packet request, int port) {
        if (!ports[port].isUp) {
            return;
        }
        int data = request.dataLength();
        System.arraycopy(request.row, request.headerLength(), reply.row, BARE_HEADER, data);
        reply.row[BARE_HEADER] = ANSWER;
        sendReply(data, port, request.destination(), request.source());
    }

    /** Sends the data that stand in the reply behind its header; the outbox writes the header's sum. */
    private void sendReply(int data, int port, int source, int destination) {
        byte[] row = reply.row;
        Wire.setFour(row, 0, 0x45000000 | BARE_HEADER + data);
        Wire.setFour(row, IDENTITY_PLACE, replies << 16);
        Wire.setFour(row, HOPS_PLACE, OWN_HOPS << 24 | CONTROL << 16);
        Wire.setFour(row, SOURCE_PLACE, source);
        Wire.setFour(row, DESTINATION_PLACE, destination);
        int sumPlace = BARE_HEADER + 2;
        Wire.setTwo(row, sumPlace, Wire.sumOf(row, BARE_HEADER, data, sumPlace));
        replies++;
        outbox.send(reply, ports[port].mtu, port, 0);
    }

    private void passOne() {
        time++;
        if (time % TOKEN_EVERY == 0 && tokens < MOST_TOKENS) {
            tokens++;
        }
        for (int i = 0; i < MOST_WAITING && waits.hasOverdue(time); i++) {
            Waiting oldest = waits.oldestFirst[0];
            if (oldest.hasFirst) {
                sendError(oldest.first, oldest.firstPort, TIME_IS_OVER, 1, 0);
            }
            waits.remove(0);
        }
    }

    /** Numbers of several bytes, the highest first, and the sum over them. */
    private static final class Wire {
        static int two(byte[] row, int at) {
            return (row[at] & 255) << 8 | row[at + 1] & 255;
        }

        static int four(byte[] row, int at) {
            return (row[at] & 255) << 24 | (row[at + 1] & 255) << 16 | (row[at + 2] & 255) << 8 | row[at + 3] & 255;
        }

        static void setTwo(byte[] row, int at, int value) {
            row[at] = (byte) (value >> 8);
            row[at + 1] = (byte) value;
        }

        static void setFour(byte[] row, int at, int value) {
            row[at] = (byte) (value >> 24);
            row[at + 1] = (byte) (value >> 16);
            row[at + 2] = (byte) (value >> 8);
            row[at + 3] = (byte) value;
        }

        static int sumOf(byte[] row, int from, int count, int sumPlace) {
            int total = 0;
            for (int i = 0; i < count; i++) {
                int at = from + i;
                if (at != sumPlace && at != sumPlace + 1) {
                    total += i % 2 == 0 ? (row[at] & 255) << 8 : row[at] & 255;
                }
            }
            // A second time, since the first can go beyond 16 bits again; no row is long enough for a third.
            total = (total & 0xffff) + (total >>> 16);
            total = (total & 0xffff) + (total >>> 16);
            return ~total & 0xffff;
        }
    }

    private static final class Port {
        int address;
        int mtu;
        boolean isUp;

        Port() {
            mtu = MOST_MTU;
            isUp = true;
        }
    }

    private static final class Routes {
        final int[] beginnings;
        final int[] bits;
        final int[] ways;
        final int[] nexts;
        int count;

        Routes() {
            beginnings = new int[MOST_ROUTES];
            bits = new int[MOST_ROUTES];
            ways = new int[MOST_ROUTES];
            nexts = new int[MOST_ROUTES];
        }

        static int beginning(int address, int bits) {
            // A shift by 32 would leave the address as it is.
            return bits == 0 ? 0 : address & -1 << 32 - bits;
        }

        int find(int address, int length) {
            int beginning = beginning(address, length);
            for (int i = 0; i < count; i++) {
                if (bits[i] == length && beginnings[i] == beginning) {
                    return i;
                }
            }
            return NONE;
        }

        int longest(int address) {
            int best = NONE;
            for (int i = 0; i < count; i++) {
                boolean isLonger = best == NONE || bits[i] > bits[best];
                if (isLonger && beginnings[i] == beginning(address, bits[i])) {
                    best = i;
                }
            }
            return best;
        }

        void put(int found, int address, int length, int way, int next) {
            int at = found == NONE ? count : found;
            if (at >= MOST_ROUTES) {
                return;
            }
            beginnings[at] = beginning(address, length);
            bits[at] = length;
            ways[at] = way;
            nexts[at] = next;
            if (found == NONE) {
                count++;
            }
        }

        void remove(int at) {
            count--;
            beginnings[at] = beginnings[count];
            bits[at] = bits[count];
            ways[at] = ways[count];
            nexts[at] = nexts[count];
        }
    }

    /** A packet from the row's first byte on; what it tells of itself can be trusted where it has no headerFault. */
    private static final class Packet {
        final byte[] row;
        int count;

        Packet(int room) {
            row = new byte[room];
        }

        int headerLength() {
            return (row[0] & 15) * 4;
        }

        int length() {
            return Wire.two(row, LENGTH_PLACE);
        }

        int dataLength() {
            return Wire.two(row, LENGTH_PLACE) - (row[0] & 15) * 4;
        }

        int identity() {
            return Wire.two(row, IDENTITY_PLACE);
        }

        boolean isUncut() {
            return (Wire.two(row, CUT_PLACE) & UNCUT) != 0;
        }

        boolean hasMore() {
            return (Wire.two(row, CUT_PLACE) & MORE) != 0;
        }

        boolean isPiece() {
            return (Wire.two(row, CUT_PLACE) & (MORE | OFFSET)) != 0;
        }

        int dataStart() {
            return (Wire.two(row, CUT_PLACE) & OFFSET) * UNIT;
        }

        int hops() {
            return row[HOPS_PLACE] & 255;
        }

        int protocol() {
            return row[PROTOCOL_PLACE] & 255;
        }

        int source() {
            return Wire.four(row, SOURCE_PLACE);
        }

        int destination() {
            return Wire.four(row, DESTINATION_PLACE);
        }

        /** The first of the outcomes 1 to 6 that holds, 0 if none does. */
        int headerFault() {
            if (count < BARE_HEADER) {
                return 1;
            }
            if ((row[0] & 0xf0) != 0x40) {
                return 2;
            }
            int header = headerLength();
            if (header < BARE_HEADER || header > count) {
                return 3;
            }
            int length = length();
            if (length < header || length > count) {
                return 4;
            }
            if (Wire.sumOf(row, 0, header, SUM_PLACE) != Wire.two(row, SUM_PLACE)) {
                return 5;
            }
            int first = row[SOURCE_PLACE] & 255;
            if (first == 127 || first > 223 || dataStart() + dataLength() > LAST_BYTE) {
                return 6;
            }
            return 0;
        }

        /** The place of the first option that is wrong, NONE if none is. */
        int wrongOption() {
            int end = headerLength();
            int size = 1;
            for (int at = BARE_HEADER; at < end && row[at] != 0; at += size) {
                size = optionSize(at, end);
                if (size < 1) {
                    return at;
                }
            }
            return NONE;
        }

        /** How many bytes an option has that is not the end of them, 0 if it is wrong. */
        int optionSize(int at, int end) {
            if (row[at] == 1) {
                return 1;
            }
            if (at + 1 >= end) {
                return 0;
            }
            int size = row[at + 1] & 255;
            return size < 2 || at + size > end ? 0 : size;
        }

        boolean isRequest() {
            int at = headerLength();
            int data = dataLength();
            return data >= REQUEST_LEAST && row[at] == REQUEST
                    && Wire.sumOf(row, at, data, at + 2) == Wire.two(row, at + 2);
        }

        boolean mayHaveError() {
            if (dataStart() != 0 || source() == 0) {
                return false;
            }
            if (protocol() != CONTROL) {
                return true;
            }
            int first = dataLength() == 0 ? NONE : row[headerLength()];
            return first == REQUEST || first == ANSWER;
        }
    }

    private static final class Delivery {
        final byte[] bytes;
        int times;
        int source;
        int destination;
        int count;

        Delivery() {
            bytes = new byte[MOST_WHOLE_DATA];
        }

        void take(Packet packet) {
            times++;
            source = packet.source();
            destination = packet.destination();
            count = packet.dataLength();
            System.arraycopy(packet.row, packet.headerLength(), bytes, 0, count);
        }
    }

    /** The packets of the out, one behind the other in one row. */
    private static final class Outbox {
        // The longest answer, 4000 bytes at an mtu of 100, goes out as 50 packets of 100 bytes; nothing needs more.
        private static final int MOST_PACKETS = 50;
        private static final int MOST_BYTES = 5000;

        final byte[] bytes;
        final int[] starts;
        final int[] lengths;
        final int[] ways;
        final int[] nexts;
        final byte[] laterHeader;
        int count;
        int used;

        Outbox() {
            bytes = new byte[MOST_BYTES];
            starts = new int[MOST_PACKETS];
            lengths = new int[MOST_PACKETS];
            ways = new int[MOST_PACKETS];
            nexts = new int[MOST_PACKETS];
            laterHeader = new byte[LONGEST_HEADER];
        }

        void empty() {
            count = 0;
            used = 0;
        }

        /** Sends a packet with a new sum, in pieces if it is longer than the mtu. */
        void send(Packet packet, int mtu, int way, int next) {
            int before = count;
            int data = packet.dataLength();
            int done = addPiece(packet, packet.row, packet.headerLength(), 0, data, mtu);
            if (done < data) {
                int header = makeLaterHeader(packet);
                for (int i = 1; i < MOST_PACKETS && done < data; i++) {
                    done += addPiece(packet, laterHeader, header, done, data, mtu);
                }
            }
            for (int i = before; i < count; i++) {
                ways[i] = way;
                nexts[i] = next;
            }
        }

        /** Adds the piece of the packet's data that begins behind those done: how many bytes of them it takes. */
        private int addPiece(Packet packet, byte[] header, int headerLength, int done, int data, int mtu) {
            int left = data - done;
            int room = mtu - headerLength;
            int part = left <= room ? left : room / UNIT * UNIT;
            int length = headerLength + part;
            if (count >= MOST_PACKETS || length > MOST_BYTES - used) {
                return 0;
            }
            System.arraycopy(header, 0, bytes, used, headerLength);
            System.arraycopy(packet.row, packet.headerLength() + done, bytes, used + headerLength, part);
            int more = part < left ? MORE : 0;
            int cut = Wire.two(packet.row, CUT_PLACE) + done / UNIT | more;
            Wire.setTwo(bytes, used + LENGTH_PLACE, length);
            Wire.setTwo(bytes, used + CUT_PLACE, cut);
            int sumPlace = used + SUM_PLACE;
            Wire.setTwo(bytes, sumPlace, Wire.sumOf(bytes, used, headerLength, sumPlace));
            starts[count] = used;
            lengths[count] = length;
            count++;
            used += length;
            return part;
        }

        /** Makes the header of all pieces but the first: how long it is. */
        private int makeLaterHeader(Packet packet) {
            byte[] row = packet.row;
            System.arraycopy(row, 0, laterHeader, 0, BARE_HEADER);
            int end = packet.headerLength();
            int length = BARE_HEADER;
            int size = 1;
            for (int at = BARE_HEADER; at < end && row[at] != 0 && size > 0; at += size) {
                size = packet.optionSize(at, end);
                // As a byte has a sign, the types of 128 and above are below 0.
                if (row[at] < 0) {
                    System.arraycopy(row, at, laterHeader, length, size);
                    length += size;
                }
            }
            while (length % 4 != 0 && length < LONGEST_HEADER) {
                laterHeader[length] = 0;
                length++;
            }
            laterHeader[0] = (byte) (64 + length / 4);
            return length;
        }
    }

    /** The pieces that have come of one packet. */
    private static final class Waiting {
        /** Header and quoted data of the latest piece with offset 0, as an error quotes them. */
        final Packet first;
        final byte[] bytes;
        final boolean[] unitsThere;
        boolean hasFirst;
        int firstPort;
        int source;
        int destination;
        int identity;
        int protocol;
        int since;
        int unitCount;
        /** Where the pieces go to: the end of all, once that is known. */
        int reach;
        boolean isEndKnown;

        Waiting() {
            first = new Packet(LONGEST_HEADER + QUOTED_DATA);
            bytes = new byte[MOST_WHOLE_DATA];
            unitsThere = new boolean[MOST_WHOLE_DATA / UNIT];
        }

        void begin(Packet piece, int time) {
            source = piece.source();
            destination = piece.destination();
            identity = piece.identity();
            protocol = piece.protocol();
            since = time;
            hasFirst = false;
            unitCount = 0;
            reach = 0;
            isEndKnown = false;
            for (int i = 0; i < unitsThere.length; i++) {
                unitsThere[i] = false;
            }
        }

        boolean waitsFor(Packet piece) {
            return source == piece.source() && destination == piece.destination()
                    && identity == piece.identity() && protocol == piece.protocol();
        }

        /** Whether a piece that is right by itself is not so beside the others. */
        boolean refuses(Packet piece) {
            int end = piece.dataStart() + piece.dataLength();
            if (isEndKnown && end > reach) {
                return true;
            }
            return !piece.hasMore() && end < reach;
        }

        void add(Packet piece, int port) {
            int start = piece.dataStart();
            int data = piece.dataLength();
            System.arraycopy(piece.row, piece.headerLength(), bytes, start, data);
            for (int i = start / UNIT; i * UNIT < start + data; i++) {
                if (!unitsThere[i]) {
                    unitsThere[i] = true;
                    unitCount++;
                }
            }
            reach = Math.max(reach, start + data);
            if (!piece.hasMore()) {
                isEndKnown = true;
            }
            if (start == 0) {
                // It has eight bytes of data, for it has MORE.
                System.arraycopy(piece.row, 0, first.row, 0, piece.headerLength() + QUOTED_DATA);
                hasFirst = true;
                firstPort = port;
            }
        }

        boolean isComplete() {
            return isEndKnown && unitCount * UNIT >= reach;
        }

        void writeTo(Packet whole) {
            byte[] row = whole.row;
            int header = first.headerLength();
            System.arraycopy(first.row, 0, row, 0, header);
            System.arraycopy(bytes, 0, row, header, reach);
            Wire.setTwo(row, LENGTH_PLACE, header + reach);
            Wire.setTwo(row, CUT_PLACE, Wire.two(row, CUT_PLACE) & ~MORE);
            Wire.setTwo(row, SUM_PLACE, Wire.sumOf(row, 0, header, SUM_PLACE));
        }
    }

    /** All that waits to be put together. */
    private static final class Waits {
        /** Behind the count are those whose rows are free. */
        final Waiting[] oldestFirst;
        int count;

        Waits() {
            oldestFirst = new Waiting[MOST_WAITING];
            for (int i = 0; i < MOST_WAITING; i++) {
                oldestFirst[i] = new Waiting();
            }
        }

        /** Takes a piece: whether the whole is there with it, which then is written and waits no more. */
        boolean completes(Packet piece, int port, int time, Packet whole) {
            int at = find(piece);
            if (isWrong(piece) || at != NONE && oldestFirst[at].refuses(piece)) {
                if (at != NONE) {
                    remove(at);
                }
                return false;
            }
            if (at == NONE) {
                at = begin(piece, time);
            }
            Waiting waiting = oldestFirst[at];
            waiting.add(piece, port);
            if (!waiting.isComplete()) {
                return false;
            }
            waiting.writeTo(whole);
            remove(at);
            return true;
        }

        boolean hasOverdue(int time) {
            return count > 0 && time - oldestFirst[0].since >= LONGEST_WAIT;
        }

        void remove(int at) {
            Waiting gone = oldestFirst[at];
            count--;
            for (int i = at; i < count; i++) {
                oldestFirst[i] = oldestFirst[i + 1];
            }
            oldestFirst[count] = gone;
        }

        private int find(Packet piece) {
            for (int i = 0; i < count; i++) {
                if (oldestFirst[i].waitsFor(piece)) {
                    return i;
                }
            }
            return NONE;
        }

        private boolean isWrong(Packet piece) {
            int data = piece.dataLength();
            return data == 0 || piece.hasMore() && data % UNIT != 0 || piece.dataStart() + data > MOST_WHOLE_DATA;
        }

        private int begin(Packet piece, int time) {
            if (count >= MOST_WAITING) {
                remove(0);
            }
            oldestFirst[count].begin(piece, time);
            count++;
            return count - 1;
        }
    }
}
