/** receive: outcomes 20 to 25 for what is not the router's own. */
public final class Promise11OthersTest {
    public static void main(String[] args) {
        Due.cases(Promise11OthersTest.class);
    }

    private static void destination(int first, int outcome) {
        Bench bench = new Bench();
        bench.house.route(0, 0, 2, 0);
        for (int rest : new int[] {0, 1, 0xffffff}) {
            Pack pack = Pack.to(first << 24 | rest);
            Due.is("first byte " + first, bench.take(pack, 0), outcome);
            Due.is("errors", bench.house.about(4), 0);
            Due.is("packets", bench.house.about(1), outcome == 25 ? 1 : 0);
        }
    }

    /** The outcome with one error of this type and code about the packet, at port 0. */
    private static void error(Bench bench, Pack pack, int outcome, int type, int code, int rest) {
        Due.is("outcome", bench.take(pack, 0), outcome);
        bench.outIs("error", Pack.error(0, Bench.HERE, pack.bytes(), type, code, rest), 0, 0);
        Due.is("tokens", bench.house.about(3), 5);
    }

    static void outcome20OfADestinationThatBeginsWith0() {
        destination(0, 20);
        destination(1, 25);
    }

    static void outcome20OfADestinationThatBeginsWith127() {
        destination(126, 25);
        destination(127, 20);
        destination(128, 25);
    }

    static void outcome20OfADestinationThatBeginsAbove223() {
        destination(223, 25);
        destination(224, 20);
        destination(255, 20);
    }

    static void outcome20ComesBefore21() {
        Bench bench = new Bench();
        Due.is("hops 0", bench.take(Pack.to(-1).hops(0), 0), 20);
        bench.silent("hops 0", 6);
    }

    static void outcome21OfHops0() {
        error(new Bench(), Pack.to(Bench.WIDE).hops(0).data(Pack.count(1, 30)), 21, 11, 0, 0);
    }

    static void outcome21OfHops1() {
        error(new Bench(), Pack.to(Bench.WIDE).hops(1).data(Pack.count(1, 30)), 21, 11, 0, 0);
    }

    static void hops2AreSentOnAs1() {
        Bench bench = new Bench();
        Due.is("outcome", bench.take(Pack.to(Bench.WIDE).hops(2), 0), 25);
        bench.outIs("sent on", Pack.to(Bench.WIDE).hops(1).bytes(), 2, Bench.WIDE);
    }

    static void hopsHaveNoSign() {
        for (int hops : new int[] {127, 128, 129, 255}) {
            Bench bench = new Bench();
            Due.is("hops " + hops, bench.take(Pack.to(Bench.WIDE).hops(hops), 0), 25);
            bench.outIs("sent on", Pack.to(Bench.WIDE).hops(hops - 1).bytes(), 2, Bench.WIDE);
        }
    }

    static void outcome21ComesBefore22() {
        error(new Bench(), Pack.to(Bench.LOST).hops(1), 21, 11, 0, 0);
    }

    static void outcome22WithoutARoute() {
        error(new Bench(), Pack.to(Bench.LOST).data(Pack.count(1, 7)), 22, 3, 0, 0);
    }

    static void outcome22WhenTheRouteIsGone() {
        Bench bench = new Bench();
        bench.house.unroute(Bench.NARROW, 16);
        error(bench, Pack.to(Bench.NARROW), 22, 3, 0, 0);
    }

    static void outcome23WhenTheRoutesPortIsDown() {
        Bench bench = new Bench();
        bench.house.up(2, false);
        error(bench, Pack.to(Bench.WIDE).data(Pack.count(1, 9)), 23, 3, 1, 0);
    }

    static void outcome23ThoughAShorterRouteHasAPortThatIsUp() {
        Bench bench = new Bench();
        bench.house.route(0, 0, 3, 0);
        bench.house.up(2, false);
        error(bench, Pack.to(Bench.WIDE), 23, 3, 1, 0);
    }

    static void outcome23WithoutAnErrorWhenItCameThere() {
        Bench bench = new Bench();
        bench.house.up(2, false);
        Due.is("outcome", bench.take(Pack.to(Bench.WIDE), 2), 23);
        bench.silent("the same port", 6);
    }

    static void outcome23ComesBefore24() {
        Bench bench = new Bench();
        bench.house.up(1, false);
        error(bench, Pack.to(Bench.NARROW).cut(Pack.UNCUT, 0).data(Pack.count(1, 200)), 23, 3, 1, 0);
    }

    static void outcome24OfOneByteMoreThanTheMtu() {
        error(new Bench(), Pack.to(Bench.NARROW).cut(Pack.UNCUT, 0).data(Pack.count(1, 81)), 24, 3, 4, 100);
    }

    static void outcome24TellsAnMtuOfTwoBytes() {
        for (int mtu : new int[] {255, 256, 1400, 1500}) {
            Bench bench = new Bench();
            bench.house.port(1, Bench.THERE, mtu);
            error(bench, Pack.to(Bench.NARROW).cut(Pack.UNCUT, 0).data(Pack.count(1, mtu - 19)), 24, 3, 4, mtu);
        }
    }

    static void outcome24WithoutAnErrorAboutAnOffset() {
        Bench bench = new Bench();
        Due.is("outcome", bench.take(Pack.to(Bench.NARROW).cut(Pack.UNCUT, 3).data(Pack.count(1, 81)), 0), 24);
        bench.silent("an offset", 6);
    }

    static void uncutAsLongAsTheMtuIsSentOn() {
        Bench bench = new Bench();
        Pack fits = Pack.to(Bench.NARROW).cut(Pack.UNCUT, 0).data(Pack.count(1, 80));
        Due.is("outcome", bench.take(fits, 0), 25);
        bench.outIs("sent on", fits.hops(63).bytes(), 1, Bench.GATE);
    }

    static void bytesBeyondTheLengthDoNotMakeItTooLong() {
        Bench bench = new Bench();
        Pack fits = Pack.to(Bench.NARROW).cut(Pack.UNCUT, 0).data(Pack.count(1, 80));
        Due.is("outcome", bench.take(Pack.join(fits.bytes(), new byte[300]), 0), 25);
        bench.outIs("sent on without them", fits.hops(63).bytes(), 1, Bench.GATE);
    }

    static void outcome25KeepsAllButHopsAndSum() {
        Bench bench = new Bench();
        Pack pack = Pack.to(Bench.WIDE).service(0xb8).identity(0xfedc).cut(0xe000, 100).protocol(6);
        pack.options(130, 4, 9, 8, 1, 0, 77, 77).data(Pack.count(100, 33));
        Due.is("outcome", bench.take(pack, 5), 25);
        bench.outIs("sent on", pack.hops(63).bytes(), 2, Bench.WIDE);
        Due.is("tokens", bench.house.about(3), 6);
        Due.is("errors and answers", bench.house.about(4), 0);
    }

    static void outcome25OfABareHeader() {
        Bench bench = new Bench();
        Due.is("outcome", bench.take(Pack.to(Bench.WIDE), 0), 25);
        bench.outIs("sent on", Pack.to(Bench.WIDE).hops(63).bytes(), 2, Bench.WIDE);
    }

    static void outcome25WritesANewSum() {
        for (int identity = 0; identity < 65536; identity += 257) {
            Bench bench = new Bench();
            Pack pack = Pack.to(Bench.WIDE).identity(identity);
            Due.is("outcome", bench.take(pack, 0), 25);
            bench.outIs("sent on", pack.hops(63).bytes(), 2, Bench.WIDE);
        }
    }

    static void outcome25ByTheLongestRoute() {
        Bench bench = new Bench();
        bench.house.route(Bench.WIDE, 32, 6, 55);
        bench.take(Pack.to(Bench.WIDE), 0);
        bench.outIs("32 bits", Pack.to(Bench.WIDE).hops(63).bytes(), 6, 55);
        bench.take(Pack.to(Bench.WIDE + 1), 0);
        bench.outIs("24 bits", Pack.to(Bench.WIDE + 1).hops(63).bytes(), 2, Bench.WIDE + 1);
        bench.take(Pack.to(Bench.NARROW), 0);
        bench.outIs("16 bits", Pack.to(Bench.NARROW).hops(63).bytes(), 1, Bench.GATE);
    }

    static void outcome25ByARouteOfZeroBits() {
        Bench bench = new Bench();
        bench.house.route(0, 0, 4, 0);
        bench.take(Pack.to(Bench.LOST), 0);
        bench.outIs("sent on", Pack.to(Bench.LOST).hops(63).bytes(), 4, Bench.LOST);
    }

    static void outcome25BackWhereItCame() {
        Bench bench = new Bench();
        Due.is("outcome", bench.take(Pack.to(Bench.WIDE), 2), 25);
        bench.outIs("back", Pack.to(Bench.WIDE).hops(63).bytes(), 2, Bench.WIDE);
    }

    static void outcome25OfAPieceThatIsNotKept() {
        Bench bench = new Bench();
        Pack piece = Pack.to(Bench.WIDE).cut(Pack.MORE, 0).data(Pack.count(0, 7));
        Due.is("outcome", bench.take(piece, 0), 25);
        bench.outIs("sent on", piece.hops(63).bytes(), 2, Bench.WIDE);
        Due.is("waiting", bench.house.about(2), 0);
    }

    static void outcome25FromSourceZero() {
        Bench bench = new Bench();
        Due.is("outcome", bench.take(Pack.to(Bench.WIDE).from(0), 0), 25);
        bench.outIs("sent on", Pack.to(Bench.WIDE).from(0).hops(63).bytes(), 2, Bench.WIDE);
    }

    static void outIsEmptyWhenNothingIsSent() {
        byte[][] rows = {new byte[0], Pack.to(-1).bytes(), Pack.to(Bench.HERE).bytes()};
        for (byte[] row : rows) {
            Bench bench = new Bench();
            bench.take(Pack.to(Bench.WIDE), 0);
            bench.take(row, 0);
            bench.silent("nothing is sent", 6);
        }
    }
}
