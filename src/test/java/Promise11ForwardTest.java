/** receive: outcomes 20 to 26 for what is not the router's own. */
public final class Promise11ForwardTest {
    public static void main(String[] args) {
        destinations();
        hops();
        routes();
        uncut();
        sentOnAsItCame();
        piecesOfABareHeader();
        piecesWithOptions();
        piecesOfAPiece();
        Due.close();
    }

    private static void destinations() {
        Bench bench = new Bench();
        bench.house.route(0, 0, 2, 0);
        int[] firsts = {0, 1, 126, 127, 128, 223, 224, 255};
        int[] outcomes = {20, 25, 25, 20, 25, 25, 20, 20};
        for (int i = 0; i < firsts.length; i++) {
            Pack pack = Pack.to(Pack.ip(firsts[i], 1, 1, 1));
            Due.is("first byte " + firsts[i], bench.take(pack, 0), outcomes[i]);
            Due.is("first byte before hops", bench.take(pack.hops(1), 0), outcomes[i] == 25 ? 21 : 20);
            bench.house.pass(10);
        }
        Due.is("20 is silent", bench.take(Pack.to(-1), 0), 20);
        bench.silent("20", 6);
    }

    private static void hops() {
        for (int hops : new int[] {0, 1}) {
            Bench bench = new Bench();
            byte[] packet = Pack.to(Bench.LOST).hops(hops).data(Pack.count(1, 30)).bytes();
            Due.is("hops before route", bench.take(packet, 0), 21);
            bench.outIs("hops " + hops, Pack.error(0, Bench.HERE, packet, 11, 0, 0), 0, 0);
        }
        Bench bench = new Bench();
        Due.is("hops 2", bench.take(Pack.to(Bench.WIDE).hops(2), 0), 25);
        bench.outIs("hops 2", Pack.to(Bench.WIDE).hops(1).bytes(), 2, Bench.WIDE);
        Due.is("hops 255", bench.take(Pack.to(Bench.WIDE).hops(255), 0), 25);
        bench.outIs("hops 255", Pack.to(Bench.WIDE).hops(254).bytes(), 2, Bench.WIDE);
    }

    private static void routes() {
        Bench bench = new Bench();
        byte[] packet = Pack.to(Bench.LOST).data(Pack.count(1, 7)).bytes();
        Due.is("no route", bench.take(packet, 0), 22);
        bench.outIs("no route", Pack.error(0, Bench.HERE, packet, 3, 0, 0), 0, 0);
        packet = Pack.to(Bench.NARROW).cut(Pack.UNCUT, 0).data(Pack.count(1, 200)).bytes();
        bench.house.up(1, false);
        Due.is("port down, before its mtu", bench.take(packet, 0), 23);
        bench.outIs("port down", Pack.error(1, Bench.HERE, packet, 3, 1, 0), 0, 0);
        bench.house.route(Bench.NARROW, 32, 0, 0);
        Due.is("back where it came from", bench.take(Pack.to(Bench.NARROW), 0), 25);
        bench.outIs("back", Pack.to(Bench.NARROW).hops(63).bytes(), 0, Bench.NARROW);
    }

    private static void uncut() {
        Bench bench = new Bench();
        byte[] packet = Pack.to(Bench.NARROW).cut(Pack.UNCUT, 0).data(Pack.count(1, 81)).bytes();
        Due.is("uncut, 101 bytes", bench.take(packet, 0), 24);
        bench.outIs("uncut", Pack.error(0, Bench.HERE, packet, 3, 4, 100), 0, 0);
        Pack fits = Pack.to(Bench.NARROW).cut(Pack.UNCUT, 0).data(Pack.count(1, 80));
        Due.is("uncut, 100 bytes", bench.take(fits, 0), 25);
        bench.outIs("uncut, 100 bytes", fits.hops(63).bytes(), 1, Bench.GATE);
        bench.house.port(1, Bench.THERE, 1400);
        packet = Pack.to(Bench.NARROW).cut(Pack.UNCUT, 0).data(Pack.count(1, 1381)).bytes();
        Due.is("uncut, 1401 bytes", bench.take(packet, 2), 24);
        bench.outIs("mtu of two bytes", Pack.error(1, 0, packet, 3, 4, 1400), 2, 0);
    }

    private static void sentOnAsItCame() {
        Bench bench = new Bench();
        Pack pack = Pack.to(Bench.WIDE).service(0xb8).identity(0xfedc).cut(0xe000, 100).protocol(6);
        pack.options(130, 4, 9, 8, 1, 0, 77, 77).data(Pack.count(100, 33));
        byte[] row = pack.bytes();
        pack.hops(63);
        Due.is("sent on", bench.take(Pack.join(row, Pack.count(0, 40)), 5), 25);
        bench.outIs("all but hops and sum stays", pack.bytes(), 2, Bench.WIDE);
        Due.is("no token", bench.house.about(3), 6);
        Due.is("no error or answer", bench.house.about(4), 0);
    }

    private static void piecesOfABareHeader() {
        Bench bench = new Bench();
        byte[] data = Pack.count(7, 240);
        Pack pack = Pack.to(Bench.NARROW).identity(77).service(4).cut(0x8000, 0).data(data);
        Due.is("three pieces that are full", bench.take(pack, 0), 26);
        Due.is("three", bench.house.about(1), 3);
        pack.hops(63);
        bench.outHas("first", 0, pack.cut(0xa000, 0).data(Pack.part(data, 0, 80)).bytes(), 1, Bench.GATE);
        bench.outHas("second", 1, pack.cut(0xa000, 10).data(Pack.part(data, 80, 160)).bytes(), 1, Bench.GATE);
        bench.outHas("third", 2, pack.cut(0x8000, 20).data(Pack.part(data, 160, 240)).bytes(), 1, Bench.GATE);
        for (int mtu : new int[] {101, 103, 107}) {
            bench = new Bench();
            bench.house.port(1, Bench.THERE, mtu);
            data = Pack.count(7, 80 + mtu - 20);
            pack = Pack.to(Bench.NARROW).data(data);
            Due.is("what is left fits, though no multiple of eight", bench.take(pack, 0), 26);
            Due.is("two", bench.house.about(1), 2);
            Due.is("all that is left", bench.house.sent(1, 0), mtu);
        }
        bench = new Bench();
        Due.is("101 bytes", bench.take(Pack.to(Bench.NARROW).data(Pack.count(0, 81)), 0), 26);
        Due.is("one byte is left", bench.house.sent(1, 0), 21);
    }

    private static void piecesWithOptions() {
        Bench bench = new Bench();
        byte[] data = Pack.count(1, 200);
        // 131 and 200 go on, in this order; 7, 1 and what is behind the end do not.
        Pack pack = Pack.to(Bench.NARROW).options(7, 3, 5, 131, 4, 1, 2, 1, 200, 3, 9, 68, 2, 0, 130, 2).data(data);
        Due.is("pieces", bench.take(pack, 0), 26);
        pack.hops(63);
        // 36 bytes of header leave 64; 28 bytes of header leave 72.
        bench.outHas("first", 0, pack.cut(Pack.MORE, 0).data(Pack.part(data, 0, 64)).bytes(), 1, Bench.GATE);
        pack.options(131, 4, 1, 2, 200, 3, 9, 0);
        bench.outHas("second", 1, pack.cut(Pack.MORE, 8).data(Pack.part(data, 64, 136)).bytes(), 1, Bench.GATE);
        bench.outHas("third", 2, pack.cut(0, 17).data(Pack.part(data, 136, 200)).bytes(), 1, Bench.GATE);
        Due.is("three", bench.house.about(1), 3);
        longestHeader();
    }

    private static void longestHeader() {
        Bench bench = new Bench();
        int[] options = new int[40];
        options[0] = 255;
        options[1] = 40;
        byte[] data = Pack.count(1, 1940);
        Due.is("2000 bytes", bench.take(Pack.to(Bench.NARROW).options(options).data(data), 0), 26);
        Due.is("forty bytes a piece", bench.house.about(1), 49);
        Pack last = Pack.to(Bench.NARROW).options(options).data(Pack.part(data, 1920, 1940)).hops(63).cut(0, 240);
        bench.outHas("the last one", 48, last.bytes(), 1, Bench.GATE);
        options[0] = 127;
        bench.take(Pack.to(Bench.NARROW).options(options).data(Pack.part(data, 0, 120)), 0);
        Due.is("without its options what is left fits", bench.house.about(1), 2);
        Due.is("its length", bench.house.sent(1, 0), 100);
    }

    private static void piecesOfAPiece() {
        for (int flags : new int[] {0, Pack.MORE}) {
            Bench bench = new Bench();
            byte[] data = Pack.count(1, 96);
            Pack pack = Pack.to(Bench.NARROW).cut(flags, 4096).data(data);
            Due.is("a piece is cut", bench.take(pack, 0), 26);
            pack.hops(63);
            bench.outHas("first", 0, pack.cut(Pack.MORE, 4096).data(Pack.part(data, 0, 80)).bytes(), 1, Bench.GATE);
            bench.outHas("last", 1, pack.cut(flags, 4106).data(Pack.part(data, 80, 96)).bytes(), 1, Bench.GATE);
        }
        Bench bench = new Bench();
        Due.is("up to the last byte", bench.take(Pack.to(Bench.NARROW).cut(0, 8091).data(Pack.count(1, 807)), 0), 26);
        Due.is("pieces", bench.house.about(1), 11);
        Due.is("highest offset, high", bench.house.out(10, 6), 8191 >> 8);
        Due.is("highest offset, low", bench.house.out(10, 7), 8191 & 255);
        Due.is("seven bytes", bench.house.sent(10, 0), 27);
    }
}
