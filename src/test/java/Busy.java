import java.util.function.Consumer;

/** A RouteHouse in the midst of its work, to see that a call that throws changes nothing at all. */
final class Busy {
    private static final int[] MTUS = {100, 101, 102};
    private static final int[] ADDRESSES = {Bench.HERE, Bench.THERE, 0};
    private static final byte[] TAPE = Pack.to(Bench.THERE).data(Pack.count(60, 7)).bytes();

    private final Bench bench = Bench.bare();
    private final RouteHouse house = bench.house;

    /** Something is sent, delivered, waits, lies on the tape; a token is gone, an error was sent, time has gone on. */
    private Busy(byte[] behindTheTape) {
        for (int port = 0; port < 3; port++) {
            house.port(port, ADDRESSES[port], MTUS[port]);
            house.route(Pack.ip(10, 9, port, 0), 24, port, port);
        }
        house.up(7, false);
        house.pass(12);
        bench.take(Pack.to(Bench.LOST), 0);
        bench.take(Pack.to(Bench.HERE).data(1, 2, 3), 0);
        bench.take(Pack.to(Bench.HERE).identity(77).cut(Pack.MORE, 0).data(Pack.count(30, 8)), 0);
        bench.take(Pack.to(Pack.ip(10, 9, 1, 9)).data(4), 0);
        bench.lay(Pack.join(TAPE, behindTheTape));
    }

    static void badNumber(String what, Consumer<RouteHouse> call) {
        refuses(what, IllegalArgumentException.class, call);
    }

    static void noSuch(String what, Consumer<RouteHouse> call) {
        refuses(what, IndexOutOfBoundsException.class, call);
    }

    /** The call throws just this exception, and all that can be asked is then as it was before. */
    static void refuses(String what, Class<? extends RuntimeException> want, Consumer<RouteHouse> call) {
        refuses(what, want, new byte[0], call);
    }

    static void refuses(String what, Class<? extends RuntimeException> want, byte[] behindTheTape,
            Consumer<RouteHouse> call) {
        Busy busy = new Busy(behindTheTape);
        String before = busy.state();
        Due.refused(what, want, () -> call.accept(busy.house));
        Due.is(what + ": what can be read", busy.state(), before);
        busy.goesOn(what);
    }

    private String state() {
        StringBuilder text = new StringBuilder();
        for (int what = 0; what <= 10; what++) {
            text.append(house.about(what)).append(' ');
        }
        for (int i = 0; i < house.about(1); i++) {
            text.append(house.sent(i, 1)).append(' ').append(house.sent(i, 2)).append(' ');
            for (byte b : bench.outRow(i)) {
                text.append(b).append(' ');
            }
        }
        for (byte b : bench.delivered()) {
            text.append(b).append(' ');
        }
        for (int third = 0; third < 4; third++) {
            for (int what = 0; what <= 2; what++) {
                text.append(house.lookup(Pack.ip(10, 9, third, 1), what)).append(' ');
            }
        }
        for (int port = 0; port < 8; port++) {
            boolean isUp = house.up(port, true);
            house.up(port, isUp);
            text.append(isUp).append(' ');
        }
        return text.toString();
    }

    /** What can't be read is seen by its work: the tape, the ports' addresses and mtus, what waits. */
    private void goesOn(String what) {
        Due.is(what + ": the tape is received", house.receive(0), 13);
        Due.is(what + ": the tape's data", bench.delivered(), Pack.count(60, 7));
        Due.is(what + ": the end of what waits", bench.take(Pack.to(Bench.HERE).identity(77).cut(0, 1).data(38), 0), 13);
        Due.is(what + ": the whole of it", bench.delivered(), Pack.count(30, 9));
        for (int port = 0; port < 3; port++) {
            Pack tooLong = Pack.to(Pack.ip(10, 9, port, 1)).cut(Pack.UNCUT, 0).data(Pack.count(0, 83));
            Due.is(what + ": too long", bench.take(tooLong, port), 24);
            Due.is(what + ": mtu of port " + port, house.out(0, 27), MTUS[port]);
            Due.is(what + ": address of port " + port, house.out(0, 14) * 256 + house.out(0, 15), ADDRESSES[port] & 65535);
        }
    }
}
