import java.io.ByteArrayOutputStream;

/** A packet in the making, and the sums and rows that tests need; written without a look at RouteHouse. */
final class Pack {
    static final int UNCUT = 0x4000;
    static final int MORE = 0x2000;

    int service = 0;
    int identity = 1;
    int cut = 0;
    int hops = 64;
    int protocol = 17;
    int source = ip(10, 0, 0, 9);
    int destination = ip(10, 9, 9, 9);
    byte[] options = new byte[0];
    byte[] data = new byte[0];

    static Pack to(int destination) {
        Pack pack = new Pack();
        pack.destination = destination;
        return pack;
    }

    Pack from(int address) {
        source = address;
        return this;
    }

    Pack service(int number) {
        service = number;
        return this;
    }

    Pack identity(int number) {
        identity = number;
        return this;
    }

    /** Bits 13 to 15 and the offset in units of eight bytes. */
    Pack cut(int flags, int offset) {
        cut = flags | offset;
        return this;
    }

    Pack hops(int number) {
        hops = number;
        return this;
    }

    Pack protocol(int number) {
        protocol = number;
        return this;
    }

    Pack options(int... numbers) {
        options = row(numbers);
        return this;
    }

    Pack data(byte[] row) {
        data = row.clone();
        return this;
    }

    Pack data(int... numbers) {
        data = row(numbers);
        return this;
    }

    byte[] bytes() {
        int header = 20 + options.length;
        byte[] head = new byte[header];
        head[0] = (byte) (64 + header / 4);
        head[1] = (byte) service;
        put(head, 2, 2, header + data.length);
        put(head, 4, 2, identity);
        put(head, 6, 2, cut);
        head[8] = (byte) hops;
        head[9] = (byte) protocol;
        put(head, 12, 4, source);
        put(head, 16, 4, destination);
        System.arraycopy(options, 0, head, 20, options.length);
        put(head, 10, 2, sum(head));
        return join(head, data);
    }

    static int ip(int a, int b, int c, int d) {
        return a << 24 | b << 16 | c << 8 | d;
    }

    static byte[] row(int... numbers) {
        byte[] row = new byte[numbers.length];
        for (int i = 0; i < row.length; i++) {
            row[i] = (byte) numbers[i];
        }
        return row;
    }

    /** So many bytes, each one more than the one before. */
    static byte[] count(int first, int many) {
        byte[] row = new byte[many];
        for (int i = 0; i < many; i++) {
            row[i] = (byte) (first + i);
        }
        return row;
    }

    static byte[] part(byte[] row, int from, int to) {
        return java.util.Arrays.copyOfRange(row, from, to);
    }

    static byte[] join(byte[]... rows) {
        ByteArrayOutputStream all = new ByteArrayOutputStream();
        for (byte[] row : rows) {
            all.write(row, 0, row.length);
        }
        return all.toByteArray();
    }

    static void put(byte[] row, int at, int many, int value) {
        for (int i = 0; i < many; i++) {
            row[at + i] = (byte) (value >> 8 * (many - 1 - i));
        }
    }

    /** The sum of a row whose own two bytes of it are 0. */
    static int sum(byte[] row) {
        long total = 0;
        for (int i = 0; i < row.length; i += 2) {
            int low = i + 1 < row.length ? row[i + 1] & 255 : 0;
            total += (row[i] & 255) * 256 + low;
        }
        while (total > 65535) {
            total = total % 65536 + total / 65536;
        }
        return 65535 - (int) total;
    }

    /** Data of protocol 1 with their sum at byte 2. */
    static byte[] control(int type, int code, byte[] rest) {
        byte[] row = join(row(type, code, 0, 0), rest);
        put(row, 2, 2, sum(row));
        return row;
    }

    /** The error that is due about a packet whose header has so many bytes. */
    static byte[] error(int identity, int port, byte[] about, int type, int code, int rest) {
        int header = (about[0] & 15) * 4;
        byte[] four = new byte[4];
        put(four, 0, 4, rest);
        byte[] quoted = part(about, 0, Math.min(about.length, header + 8));
        int source = (about[12] & 255) << 24 | (about[13] & 255) << 16 | (about[14] & 255) << 8 | about[15] & 255;
        return to(source).from(port).identity(identity).protocol(1).data(control(type, code, join(four, quoted))).bytes();
    }
}
