import java.util.Arrays;

/** receive: when an error goes out, what it is made of, and what it costs. */
public final class Promise11ErrorTest {
    public static void main(String[] args) {
        Due.cases(Promise11ErrorTest.class);
    }

    private static Pack lost() {
        return Pack.to(Bench.LOST);
    }

    private static void silent(String what, Pack pack) {
        Bench bench = new Bench();
        Due.is(what, bench.take(pack, 0), 22);
        bench.silent(what, 6);
        Due.is(what + ": not counted", bench.house.about(4), 0);
    }

    private static void heard(String what, Pack pack) {
        Bench bench = new Bench();
        Due.is(what, bench.take(pack, 0), 22);
        bench.outIs(what, Pack.error(0, Bench.HERE, pack.bytes(), 3, 0, 0), 0, 0);
        Due.is(what + ": token", bench.house.about(3), 5);
        Due.is(what + ": counted", bench.house.about(4), 1);
    }

    static void eachByteOfAnError() {
        Bench bench = new Bench();
        byte[] about = lost().service(9).identity(0x1234).data(Pack.count(90, 12)).bytes();
        bench.take(about, 0);
        byte[] start = {
            0x45, 0, 0, 56, 0, 0, 0, 0, 64, 1, 0, 0, 10, 0, 0, 1, 10, 0, 0, 9, 3, 0, 0, 0, 0, 0, 0, 0,
        };
        byte[] want = Pack.join(start, Pack.part(about, 0, 28));
        Pack.put(want, 10, 2, Pack.sum(Pack.part(want, 0, 20)));
        Pack.put(want, 22, 2, Pack.sum(Pack.part(want, 20, 56)));
        bench.outIs("error", want, 0, 0);
    }

    static void quotesUpToEightBytesOfData() {
        for (int many = 0; many <= 10; many++) {
            heard(many + " bytes of data", lost().data(Pack.count(90, many)));
        }
    }

    static void quotesNoBytesBeyondTheLength() {
        Bench bench = new Bench();
        byte[] packet = lost().data(Pack.count(90, 3)).bytes();
        Due.is("outcome", bench.take(Pack.join(packet, Pack.count(0, 9)), 0), 22);
        bench.outIs("error", Pack.error(0, Bench.HERE, packet, 3, 0, 0), 0, 0);
    }

    static void quotesTheHeaderAsItCame() {
        heard("hops, service, cut", lost().hops(2).service(77).cut(0xe000, 0).data(Pack.count(0, 24)));
        heard("options", lost().options(130, 3, 5, 1, 7, 4, 0, 0).data(Pack.count(0, 24)));
    }

    static void quotesTheLongestHeader() {
        int[] options = new int[40];
        Arrays.fill(options, 1);
        heard("60 bytes", lost().options(options).data(Pack.count(90, 9)));
        Bench bench = new Bench();
        Pack pack = lost().options(options).data(Pack.count(90, 9));
        bench.take(pack, 1);
        bench.outIs("one packet at the least mtu", Pack.error(0, Bench.THERE, pack.bytes(), 3, 0, 0), 1, 0);
    }

    static void sumMayHaveAnOddNumberOfBytes() {
        heard("one byte of data", lost().data(0xfe));
        heard("seven bytes of data", lost().data(255, 255, 255, 255, 255, 255, 255));
    }

    static void noneAboutAPacketWithAnOffset() {
        silent("the least", lost().cut(0, 1).data(Pack.count(0, 8)));
        silent("with MORE", lost().cut(Pack.MORE, 1).data(Pack.count(0, 8)));
        silent("the high byte of it", lost().cut(0, 256).data(Pack.count(0, 8)));
        silent("the highest bit of it", lost().cut(0, 4096).data(Pack.count(0, 8)));
    }

    static void oneAboutAPieceWithoutAnOffset() {
        heard("MORE", lost().cut(Pack.MORE, 0).data(Pack.count(0, 8)));
        heard("UNCUT", lost().cut(Pack.UNCUT, 0).data(Pack.count(0, 8)));
        heard("bit 15", lost().cut(0x8000, 0).data(Pack.count(0, 8)));
    }

    static void noneAboutProtocol1ThatBeginsOtherwise() {
        for (int type = 0; type < 256; type++) {
            if (type != 0 && type != 8) {
                silent("type " + type, lost().protocol(1).data(type, 0, 0, 0, 0, 0, 0, 0));
            }
        }
    }

    static void oneAboutProtocol1ThatBeginsWith8Or0() {
        heard("8", lost().protocol(1).data(8));
        heard("0", lost().protocol(1).data(0));
        heard("8 and more", lost().protocol(1).data(8, 1, 2, 3, 4, 5, 6, 7, 8, 9));
        heard("0 and more", lost().protocol(1).data(0, 1, 2, 3, 4, 5, 6, 7, 8, 9));
    }

    static void protocol1IsLookedAtBehindItsOptions() {
        silent("3 behind options of 8", lost().protocol(1).options(8, 4, 8, 8).data(3, 8));
        heard("8 behind options of 3", lost().protocol(1).options(3, 4, 3, 3).data(8, 3));
    }

    static void noneAboutProtocol1WithoutData() {
        silent("no data", lost().protocol(1));
        Bench bench = new Bench();
        Due.is("8 beyond the length", bench.take(Pack.join(lost().protocol(1).bytes(), Pack.row(8, 0)), 0), 22);
        bench.silent("8 beyond the length", 6);
    }

    static void oneAboutOtherProtocolsWhateverTheirData() {
        heard("none", lost().protocol(2));
        heard("3", lost().protocol(17).data(3, 0, 0, 0));
        heard("3 of protocol 129", lost().protocol(129).data(3, 0, 0, 0));
    }

    static void noneAboutSourceZero() {
        silent("0.0.0.0", lost().from(0));
    }

    static void oneAboutASourceBesideZero() {
        heard("0.0.0.1", lost().from(1));
        heard("1.0.0.0", lost().from(1 << 24));
        heard("223.0.0.0", lost().from(223 << 24));
    }

    static void nothingIsDoneAtAPortThatIsDown() {
        Bench bench = new Bench();
        bench.house.up(1, false);
        Due.is("outcome", bench.take(lost(), 1), 22);
        bench.silent("down", 6);
        Due.is("not counted", bench.house.about(4), 0);
        bench.take(lost(), 0);
        bench.outIs("the next one", Pack.error(0, Bench.HERE, lost().bytes(), 3, 0, 0), 0, 0);
    }

    static void goesOutWhereThePacketCame() {
        Bench bench = new Bench();
        bench.take(lost(), 1);
        bench.outIs("port 1", Pack.error(0, Bench.THERE, lost().bytes(), 3, 0, 0), 1, 0);
        bench.take(lost(), 7);
        bench.outIs("port 7, of address 0", Pack.error(1, 0, lost().bytes(), 3, 0, 0), 7, 0);
    }

    static void goesOutThereWhateverTheRoutes() {
        Bench bench = new Bench();
        bench.house.route(Bench.PEER, 32, 1, Bench.GATE);
        bench.take(lost(), 0);
        bench.outIs("port 0", Pack.error(0, Bench.HERE, lost().bytes(), 3, 0, 0), 0, 0);
    }

    static void identityIsTheNumberOfErrorsAndAnswersBefore() {
        Bench bench = new Bench();
        Pack request = Pack.to(Bench.HERE).protocol(1).data(Pack.control(8, 0, Pack.count(1, 4)));
        for (int i = 0; i < 4; i++) {
            bench.take(lost().identity(4711), 0);
            Due.is("identity", bench.house.out(0, 4) * 256 + bench.house.out(0, 5), 2 * i);
            Due.is("sent", bench.house.about(4), 2 * i + 1);
            bench.take(request, 0);
        }
    }

    static void identityMayBe128AndAbove() {
        Bench bench = new Bench();
        Pack request = Pack.to(Bench.HERE).protocol(1).data(Pack.control(8, 0, Pack.count(1, 4)));
        byte[] row = request.bytes();
        // With two feeds and a receive each, 512 calls leave room for no more than some 170.
        for (int i = 0; i < 150; i++) {
            feedTwenty(bench.house, row, 0);
            feedTwenty(bench.house, row, 20);
            Due.is("outcome", bench.house.receive(0), 11);
        }
        Due.is("sent", bench.house.about(4), 150);
        Due.is("identity", bench.house.out(0, 4) * 256 + bench.house.out(0, 5), 149);
    }

    private static void feedTwenty(RouteHouse house, byte[] row, int from) {
        int[] numbers = new int[5];
        for (int i = 0; i < 20; i++) {
            int value = from + i < row.length ? row[from + i] & 255 : 0;
            numbers[i / 4] = numbers[i / 4] << 8 | value;
        }
        house.feed(numbers[0], numbers[1], numbers[2], numbers[3], numbers[4]);
    }

    static void eachTakesOneOfSixTokens() {
        Bench bench = new Bench();
        for (int left = 5; left >= 0; left--) {
            bench.take(lost(), 0);
            Due.is("tokens left", bench.house.about(3), left);
            Due.is("packets", bench.house.about(1), 1);
        }
    }

    static void noneWhenNoTokenIsLeft() {
        Bench bench = new Bench();
        bench.spendTokens();
        Due.is("outcome", bench.take(lost(), 0), 22);
        bench.silent("no token", 0);
        Due.is("not counted", bench.house.about(4), 6);
    }

    static void outcomesStayWhenNoTokenIsLeft() {
        Bench bench = new Bench();
        bench.spendTokens();
        bench.house.up(2, false);
        Due.is("7", bench.take(Pack.to(Bench.HERE).options(7, 0, 0, 0), 0), 7);
        Due.is("14", bench.take(Pack.to(Bench.HERE).protocol(9), 0), 14);
        Due.is("21", bench.take(lost().hops(1), 0), 21);
        Due.is("23", bench.take(Pack.to(Bench.WIDE), 0), 23);
        Due.is("24", bench.take(Pack.to(Bench.NARROW).cut(Pack.UNCUT, 0).data(new byte[81]), 0), 24);
        bench.silent("no token", 0);
    }

    static void silentOnesTakeNoToken() {
        Bench bench = new Bench();
        bench.take(lost().from(0), 0);
        bench.take(lost().cut(0, 1).data(1), 0);
        bench.take(lost().protocol(1).data(3), 0);
        bench.silent("none of them", 6);
    }
}
