import java.util.ArrayList;
import java.util.Arrays;
import java.util.Iterator;
import java.util.LinkedHashMap;
import java.util.List;
import java.util.Map;

/** A second router after the document, slow and plain: nothing is kept that can be found out again. */
final class Model {
    record Sent(byte[] row, int port, int next) {
    }

    record Piece(byte[] row, int port) {
    }

    record Route(int port, int next) {
    }

    private static final class Group {
        final int since;
        final List<Piece> pieces = new ArrayList<>();

        Group(int since) {
            this.since = since;
        }

        Piece first() {
            Piece found = null;
            for (Piece piece : pieces) {
                found = start(piece.row) == 0 ? piece : found;
            }
            return found;
        }
    }

    private final int[] addresses = new int[8];
    private final int[] mtus = new int[8];
    private final boolean[] ups = new boolean[8];
    private final Map<String, Route> routes = new LinkedHashMap<>();
    private final Map<String, Group> groups = new LinkedHashMap<>();
    private byte[] tape = new byte[0];
    private List<Sent> out = new ArrayList<>();
    private byte[] delivered = null;
    private int deliveries = 0;
    private int tokens = 6;
    private int replies = 0;
    private int time = 0;

    Model() {
        Arrays.fill(mtus, 1500);
        Arrays.fill(ups, true);
    }

    long port(int port, int address, int mtu) {
        there(port, 8);
        right(mtu >= 100 && mtu <= 1500);
        addresses[port] = address;
        mtus[port] = mtu;
        return 0;
    }

    long up(int port, boolean up) {
        there(port, 8);
        boolean was = ups[port];
        ups[port] = up;
        return was ? 1 : 0;
    }

    private static String beginning(int address, int bits) {
        String all = String.format("%32s", Integer.toBinaryString(address)).replace(' ', '0');
        return all.substring(0, bits);
    }

    long route(int address, int bits, int port, int next) {
        right(bits >= 0 && bits <= 32);
        there(port, 8);
        String key = beginning(address, bits);
        if (!routes.containsKey(key) && routes.size() == 400) {
            throw new UnsupportedOperationException();
        }
        routes.put(key, new Route(port, next));
        return routes.size();
    }

    long unroute(int address, int bits) {
        right(bits >= 0 && bits <= 32);
        return routes.remove(beginning(address, bits)) == null ? 0 : 1;
    }

    private int longest(int address) {
        for (int bits = 32; bits >= 0; bits--) {
            if (routes.containsKey(beginning(address, bits))) {
                return bits;
            }
        }
        return -1;
    }

    long lookup(int address, int what) {
        right(what >= 0 && what <= 2);
        int bits = longest(address);
        if (bits < 0) {
            return what == 2 ? 0 : -1;
        }
        Route route = routes.get(beginning(address, bits));
        return what == 0 ? route.port : what == 1 ? bits : route.next;
    }

    long feed(int... numbers) {
        if (tape.length + 20 > 2000) {
            throw new IllegalStateException();
        }
        for (int number : numbers) {
            byte[] four = new byte[4];
            Pack.put(four, 0, 4, number);
            tape = Pack.join(tape, four);
        }
        return tape.length;
    }

    long end(int n) {
        right(n >= 0 && n <= tape.length);
        tape = Arrays.copyOf(tape, n);
        return 0;
    }

    long sum(int words) {
        right(words >= 5 && words <= 15 && words * 4 <= tape.length);
        summed(tape, words * 4);
        return 0;
    }

    long copy(int i) {
        there(i, out.size());
        tape = out.get(i).row.clone();
        return tape.length;
    }

    long sent(int i, int what) {
        there(i, out.size());
        right(what >= 0 && what <= 2);
        Sent packet = out.get(i);
        return what == 0 ? packet.row.length : what == 1 ? packet.port : packet.next;
    }

    long out(int i, int k) {
        there(i, out.size());
        there(k, out.get(i).row.length);
        return out.get(i).row[k] & 255;
    }

    long data(int k) {
        return delivered == null || k < 0 || k >= data(delivered).length ? -1 : data(delivered)[k] & 255;
    }

    long about(int what) {
        right(what >= 0 && what <= 10);
        boolean none = delivered == null;
        long[] numbers = {
            routes.size(), out.size(), groups.size(), tokens, replies, time, deliveries,
            none ? 0 : number(delivered, 12, 4), none ? 0 : number(delivered, 16, 4),
            none ? 0 : data(delivered).length, tape.length,
        };
        return numbers[what];
    }

    long pass(int n) {
        right(n >= 0 && n <= 100);
        out = new ArrayList<>();
        while (n-- > 0) {
            time++;
            tokens = Math.min(6, tokens + (time % 10 == 0 ? 1 : 0));
            Iterator<Group> all = groups.values().iterator();
            while (all.hasNext()) {
                Group group = all.next();
                if (time - group.since < 30) {
                    continue;
                }
                all.remove();
                if (group.first() != null) {
                    error(group.first().row, group.first().port, 11, 1, 0);
                }
            }
        }
        return out.size();
    }

    long receive(int port) {
        there(port, 8);
        out = new ArrayList<>();
        byte[] came = tape;
        tape = new byte[0];
        if (came.length < 20) {
            return 1;
        }
        if ((came[0] & 255) / 16 != 4) {
            return 2;
        }
        int header = header(came);
        if (header < 20 || header > came.length) {
            return 3;
        }
        int length = number(came, 2, 2);
        if (length < header || length > came.length) {
            return 4;
        }
        byte[] row = Arrays.copyOf(came, length);
        if (!Arrays.equals(summed(row.clone(), header), row)) {
            return 5;
        }
        int source = row[12] & 255;
        if (source == 127 || source >= 224 || start(row) + data(row).length >= 65536) {
            return 6;
        }
        int wrong = options(row, new ArrayList<>());
        if (wrong > 0) {
            error(row, port, 12, 0, wrong << 24);
            return 7;
        }
        int destination = number(row, 16, 4);
        for (int address : addresses) {
            if (address == destination && address != 0) {
                return number(row, 6, 2) % 16384 == 0 ? own(row, port) : piece(row, port);
            }
        }
        return others(row, port, destination);
    }

    private int piece(byte[] row, int port) {
        byte[] data = data(row);
        boolean more = (row[6] & 0x20) != 0;
        int end = start(row) + data.length;
        String key = number(row, 12, 4) + " " + number(row, 16, 4) + " " + number(row, 4, 2) + " " + row[9];
        Group group = groups.get(key);
        boolean bad = more && data.length % 8 != 0 || data.length == 0 || end > 4000;
        if (group != null) {
            for (Piece other : group.pieces) {
                int otherEnd = start(other.row) + data(other.row).length;
                boolean otherIsLast = (other.row[6] & 0x20) == 0;
                bad |= otherIsLast && end > otherEnd;
                bad |= !more && end < otherEnd;
                bad |= !more && otherIsLast && end != otherEnd;
            }
        }
        if (bad) {
            groups.remove(key);
            return 10;
        }
        if (group == null) {
            if (groups.size() == 4) {
                groups.remove(groups.keySet().iterator().next());
            }
            group = new Group(time);
            groups.put(key, group);
        }
        group.pieces.add(new Piece(row, port));
        byte[] whole = whole(group);
        if (whole == null) {
            return 10;
        }
        groups.remove(key);
        return own(whole, port);
    }

    private static byte[] whole(Group group) {
        int[] bytes = new int[4000];
        Arrays.fill(bytes, -1);
        int end = -1;
        for (Piece piece : group.pieces) {
            byte[] data = data(piece.row);
            for (int i = 0; i < data.length; i++) {
                bytes[start(piece.row) + i] = data[i] & 255;
            }
            if ((piece.row[6] & 0x20) == 0) {
                end = start(piece.row) + data.length;
            }
        }
        for (int i = 0; i < end; i++) {
            end = bytes[i] < 0 ? -1 : end;
        }
        if (end < 0) {
            return null;
        }
        byte[] first = group.first().row;
        byte[] row = Pack.join(Arrays.copyOf(first, header(first)), Pack.row(Arrays.copyOf(bytes, end)));
        Pack.put(row, 2, 2, row.length);
        row[6] &= (byte) 0xdf;
        return summed(row, header(row));
    }

    private int own(byte[] row, int port) {
        byte[] data = data(row);
        if (row[9] == 17) {
            delivered = row;
            deliveries++;
            return 13;
        }
        if (row[9] != 1) {
            error(row, port, 3, 2, 0);
            return 14;
        }
        if (data.length < 8 || data[0] != 8) {
            return 12;
        }
        byte[] other = Pack.control(8, data[1], Pack.part(data, 4, data.length));
        if (!Arrays.equals(other, data)) {
            return 12;
        }
        if (ups[port]) {
            byte[] answer = Pack.control(0, data[1], Pack.part(data, 4, data.length));
            reply(port, number(row, 16, 4), number(row, 12, 4), answer);
        }
        return 11;
    }

    private int others(byte[] row, int port, int destination) {
        int first = row[16] & 255;
        if (first == 0 || first == 127 || first >= 224) {
            return 20;
        }
        if ((row[8] & 255) <= 1) {
            error(row, port, 11, 0, 0);
            return 21;
        }
        int bits = longest(destination);
        if (bits < 0) {
            error(row, port, 3, 0, 0);
            return 22;
        }
        Route route = routes.get(beginning(destination, bits));
        if (!ups[route.port]) {
            error(row, port, 3, 1, 0);
            return 23;
        }
        boolean isLong = row.length > mtus[route.port];
        if (isLong && (row[6] & 0x40) != 0) {
            error(row, port, 3, 4, mtus[route.port]);
            return 24;
        }
        row[8]--;
        send(row, route.port, route.next == 0 ? destination : route.next);
        return isLong ? 26 : 25;
    }

    private void error(byte[] row, int port, int type, int code, int rest) {
        byte[] data = data(row);
        boolean isStrange = row[9] == 1 && (data.length == 0 || data[0] != 8 && data[0] != 0);
        if (!ups[port] || tokens == 0 || start(row) > 0 || number(row, 12, 4) == 0 || isStrange) {
            return;
        }
        tokens--;
        byte[] four = new byte[4];
        Pack.put(four, 0, 4, rest);
        byte[] quoted = Arrays.copyOf(row, Math.min(row.length, header(row) + 8));
        reply(port, addresses[port], number(row, 12, 4), Pack.control(type, code, Pack.join(four, quoted)));
    }

    private void reply(int port, int from, int to, byte[] data) {
        byte[] row = Pack.to(to).from(from).identity(replies++ % 65536).protocol(1).data(data).bytes();
        send(row, port, 0);
    }

    /** Cuts the packet in two again and again, by the last piece made. */
    private void send(byte[] row, int port, int next) {
        int header = header(row);
        if (row.length <= mtus[port]) {
            out.add(new Sent(summed(row, header), port, next));
            return;
        }
        int fits = (mtus[port] - header) / 8 * 8;
        byte[] front = Arrays.copyOf(row, header + fits);
        Pack.put(front, 2, 2, front.length);
        front[6] |= 0x20;
        out.add(new Sent(summed(front, header), port, next));
        List<byte[]> kept = new ArrayList<>();
        options(row, kept);
        byte[] rest = Arrays.copyOf(row, 20);
        for (byte[] option : kept) {
            rest = (option[0] & 255) >= 128 ? Pack.join(rest, option) : rest;
        }
        rest = Arrays.copyOf(rest, (rest.length + 3) / 4 * 4);
        rest[0] = (byte) (64 + rest.length / 4);
        rest = Pack.join(rest, Pack.part(row, header + fits, row.length));
        Pack.put(rest, 2, 2, rest.length);
        Pack.put(rest, 6, 2, number(row, 6, 2) + fits / 8);
        send(rest, port, next);
    }

    /** The place of a wrong option or 0; the right ones before it come into the list. */
    private static int options(byte[] row, List<byte[]> found) {
        int header = header(row);
        int at = 20;
        while (at < header && row[at] != 0) {
            int size = row[at] == 1 ? 1 : at + 1 < header ? row[at + 1] & 255 : 0;
            if (row[at] != 1 && size < 2 || at + size > header) {
                return at;
            }
            found.add(Pack.part(row, at, at + size));
            at += size;
        }
        return 0;
    }

    private static byte[] summed(byte[] row, int header) {
        row[10] = row[11] = 0;
        Pack.put(row, 10, 2, Pack.sum(Arrays.copyOf(row, header)));
        return row;
    }

    private static int header(byte[] row) {
        return row[0] % 16 * 4;
    }

    private static int start(byte[] row) {
        return number(row, 6, 2) % 8192 * 8;
    }

    private static byte[] data(byte[] row) {
        return Pack.part(row, header(row), number(row, 2, 2));
    }

    private static int number(byte[] row, int at, int many) {
        int value = 0;
        for (int i = 0; i < many; i++) {
            value = value * 256 + (row[at + i] & 255);
        }
        return value;
    }

    private static void there(int i, int many) {
        if (i < 0 || i >= many) {
            throw new IndexOutOfBoundsException();
        }
    }

    private static void right(boolean isRight) {
        if (!isRight) {
            throw new IllegalArgumentException();
        }
    }
}
