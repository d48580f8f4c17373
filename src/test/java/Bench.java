/** A RouteHouse with three ports and two routes, or a bare one, and calls on it in packets instead of numbers. */
final class Bench {
    static final int HERE = Pack.ip(10, 0, 0, 1);
    static final int THERE = Pack.ip(10, 0, 1, 1);
    static final int PEER = Pack.ip(10, 0, 0, 9);
    static final int GATE = Pack.ip(10, 0, 1, 7);
    /** Goes out at port 1 with an mtu of 100, by the gate. */
    static final int NARROW = Pack.ip(10, 9, 1, 1);
    /** Goes out at port 2 with an mtu of 576, straight. */
    static final int WIDE = Pack.ip(10, 9, 9, 9);
    /** Has no route. */
    static final int LOST = Pack.ip(11, 1, 1, 1);
    /** What an object answers beyond its 512th call is free; some are left for calls that are not counted here. */
    private static final int MOST_CALLS = 490;

    final RouteHouse house = new RouteHouse();
    private int calls = 0;

    Bench() {
        house.port(0, HERE, 1500);
        house.port(1, THERE, 100);
        house.port(2, 0, 576);
        house.route(Pack.ip(10, 9, 0, 0), 16, 1, GATE);
        house.route(Pack.ip(10, 9, 9, 0), 24, 2, 0);
    }

    private Bench(boolean isBare) {
    }

    /** A new object, to which nothing was done. */
    static Bench bare() {
        return new Bench(true);
    }

    void lay(byte[] row) {
        count(row.length / 20 + 3);
        house.end(0);
        for (int at = 0; at < row.length; at += 20) {
            house.feed(four(row, at), four(row, at + 4), four(row, at + 8), four(row, at + 12), four(row, at + 16));
        }
        house.end(row.length);
    }

    int take(byte[] row, int port) {
        lay(row);
        return house.receive(port);
    }

    int take(Pack pack, int port) {
        return take(pack.bytes(), port);
    }

    byte[] outRow(int i) {
        byte[] row = new byte[house.sent(i, 0)];
        count(row.length + 4);
        for (int k = 0; k < row.length; k++) {
            row[k] = (byte) house.out(i, k);
        }
        return row;
    }

    byte[] delivered() {
        byte[] row = new byte[house.about(9)];
        count(row.length + 4);
        for (int k = 0; k < row.length; k++) {
            row[k] = (byte) house.data(k);
        }
        return row;
    }

    /** The out has to be this one packet. */
    void outIs(String what, byte[] want, int port, int next) {
        Due.is(what + ": packets of the out", house.about(1), 1);
        if (house.about(1) > 0) {
            outHas(what, 0, want, port, next);
        }
    }

    void outHas(String what, int i, byte[] want, int port, int next) {
        Due.is(what + ": packet " + i, outRow(i), want);
        Due.is(what + ": port of packet " + i, house.sent(i, 1), port);
        Due.is(what + ": next address of packet " + i, house.sent(i, 2), next);
    }

    /** No answer, no error: the out is empty, and no token was taken. */
    void silent(String what, int tokens) {
        count(2);
        Due.is(what + ": packets of the out", house.about(1), 0);
        Due.is(what + ": tokens", house.about(3), tokens);
    }

    /** Takes all six tokens. */
    void spendTokens() {
        for (int i = 0; i < 6; i++) {
            take(Pack.to(LOST), 0);
        }
        Due.is("tokens", house.about(3), 0);
    }

    private void count(int more) {
        calls += more;
        if (calls > MOST_CALLS) {
            throw new IllegalStateException("the test asks for more than 512 calls");
        }
    }

    private static int four(byte[] row, int at) {
        int value = 0;
        for (int i = at; i < at + 4; i++) {
            value = value << 8 | (i < row.length ? row[i] & 255 : 0);
        }
        return value;
    }
}
