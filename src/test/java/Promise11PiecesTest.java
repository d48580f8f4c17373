import java.util.Arrays;

/** receive: outcome 26, and the pieces for an MTU. */
public final class Promise11PiecesTest {
    public static void main(String[] args) {
        Due.cases(Promise11PiecesTest.class);
    }

    private static Bench withMtu(int mtu) {
        Bench bench = new Bench();
        bench.house.port(1, Bench.THERE, mtu);
        return bench;
    }

    /** The packet is cut at an mtu of 100 into pieces with these numbers of data. */
    private static Bench cut(Pack pack, int... parts) {
        return cut(withMtu(100), pack, parts);
    }

    private static Bench cut(Bench bench, Pack pack, int... parts) {
        Due.is("outcome", bench.take(pack, 0), 26);
        Due.is("pieces", bench.house.about(1), parts.length);
        int at = 0;
        for (int i = 0; i < Math.min(parts.length, bench.house.about(1)); i++) {
            int header = (bench.house.out(i, 0) & 15) * 4;
            Due.is("data of piece " + i, bench.house.sent(i, 0) - header, parts[i]);
            int offset = (bench.house.out(i, 6) & 31) << 8 | bench.house.out(i, 7);
            Due.is("offset of piece " + i, offset, (pack.cut & 8191) + at / 8);
            at += parts[i];
        }
        return bench;
    }

    private static Pack narrow(int data) {
        return Pack.to(Bench.NARROW).data(Pack.count(7, data));
    }

    private static int[] filled(int many, int value) {
        int[] numbers = new int[many];
        Arrays.fill(numbers, value);
        return numbers;
    }

    static void oneByteMoreThanTheMtu() {
        cut(narrow(81), 80, 1);
    }

    static void lastPieceMayBeFull() {
        cut(narrow(160), 80, 80);
        cut(narrow(240), 80, 80, 80);
    }

    static void oneByteMoreThanFullPieces() {
        cut(narrow(161), 80, 80, 1);
    }

    static void oneByteLessThanFullPieces() {
        cut(narrow(159), 80, 79);
    }

    static void partsAreMultiplesOfEight() {
        for (int mtu = 100; mtu < 108; mtu++) {
            cut(withMtu(mtu), narrow(200), 80, 80, 40);
        }
        cut(withMtu(108), narrow(200), 88, 88, 24);
    }

    static void lastPieceIsWhatFitsThoughNoMultipleOfEight() {
        for (int mtu = 100; mtu < 108; mtu++) {
            int room = mtu - 20;
            cut(withMtu(mtu), narrow(80 + room), 80, room);
            // One byte more does not fit: the piece before it is a multiple of eight again.
            cut(withMtu(mtu), narrow(81 + room), 80, 80, room + 1 - 80);
        }
    }

    static void everyLengthFrom101To300IsCutAsFarAsItGoes() {
        for (int data = 81; data <= 280; data++) {
            int full = (data - 1) / 80;
            int[] parts = filled(full + 1, 80);
            parts[full] = data - 80 * full;
            cut(narrow(data), parts);
        }
    }

    static void mtu1500CutsTheLongestPacket() {
        cut(withMtu(1500), narrow(1980), 1480, 500);
        cut(withMtu(1499), narrow(1980), 1472, 508);
    }

    static void longestPacketAtTheLeastMtu() {
        int[] parts = filled(25, 80);
        parts[24] = 60;
        cut(narrow(1980), parts);
    }

    static void longestPacketIsCutAgainAndAgain() {
        Bench bench = withMtu(100);
        for (int i = 0; i < 4; i++) {
            Pack pack = narrow(1980).identity(i);
            Due.is("outcome", bench.take(pack, 0), 26);
            Due.is("pieces", bench.house.about(1), 25);
            Due.is("length of the last", bench.house.sent(24, 0), 80);
            Due.is("its last byte", bench.house.out(24, 79), pack.data[1979] & 255);
            Due.is("identity of the first", bench.house.out(0, 5), i);
        }
    }

    static void eachPieceHasTheHeaderWithItsOwnLengthCutAndSum() {
        byte[] data = Pack.count(7, 250);
        Pack pack = Pack.to(Bench.NARROW).identity(0xfe77).service(0xb4).protocol(200).hops(255).cut(0x8000, 0).data(data);
        Bench bench = cut(pack, 80, 80, 80, 10);
        pack.hops(254);
        for (int i = 0; i < 4; i++) {
            pack.cut(i < 3 ? 0xa000 : 0x8000, 10 * i).data(Pack.part(data, 80 * i, Math.min(250, 80 * i + 80)));
            bench.outHas("piece", i, pack.bytes(), 1, Bench.GATE);
        }
    }

    static void nextAddressOfEachIsTheDestinationIfTheRouteHasNone() {
        Bench bench = new Bench();
        bench.take(Pack.to(Bench.WIDE).data(Pack.count(0, 600)), 0);
        Due.is("pieces", bench.house.about(1), 2);
        for (int i = 0; i < 2; i++) {
            Due.is("port", bench.house.sent(i, 1), 2);
            Due.is("next", bench.house.sent(i, 2), Bench.WIDE);
        }
    }

    static void bytesBeyondTheLengthAreNotSent() {
        Bench bench = new Bench();
        Due.is("outcome", bench.take(Pack.join(narrow(81).bytes(), new byte[50]), 0), 26);
        Due.is("pieces", bench.house.about(1), 2);
        Due.is("the last one", bench.house.sent(1, 0), 21);
    }

    static void takesNoTokenAndCountsNoError() {
        Bench bench = cut(narrow(81), 80, 1);
        Due.is("tokens", bench.house.about(3), 6);
        Due.is("errors and answers", bench.house.about(4), 0);
    }

    static void offsetsGoOnFromThePacketsOwn() {
        cut(narrow(96).cut(0, 4096), 80, 16);
        cut(narrow(200).cut(Pack.MORE, 1), 80, 80, 40);
        cut(narrow(81).cut(0, 255), 80, 1);
    }

    static void lastPieceOfAPieceWithMoreHasMore() {
        Bench bench = cut(narrow(168).cut(Pack.MORE, 5), 80, 80, 8);
        for (int i = 0; i < 3; i++) {
            Due.is("MORE of piece " + i, bench.house.out(i, 6) & 32, 32);
        }
    }

    static void lastPieceOfAPacketWithoutMoreHasNone() {
        Bench bench = cut(narrow(168).cut(0, 5), 80, 80, 8);
        for (int i = 0; i < 3; i++) {
            Due.is("MORE of piece " + i, bench.house.out(i, 6) & 32, i < 2 ? 32 : 0);
        }
    }

    static void pieceWithMoreMayHaveAnyNumberOfData() {
        // It is not the router's own, so nobody asks for a multiple of eight.
        cut(narrow(83).cut(Pack.MORE, 0), 80, 3);
    }

    static void highestOffsetIsReached() {
        Bench bench = withMtu(100);
        Due.is("outcome", bench.take(narrow(807).cut(0, 8091), 0), 26);
        Due.is("pieces", bench.house.about(1), 11);
        Due.is("high byte", bench.house.out(10, 6), 31);
        Due.is("low byte", bench.house.out(10, 7), 255);
        Due.is("seven bytes", bench.house.sent(10, 0), 27);
    }

    static void bit15StaysInEachPiece() {
        Bench bench = cut(narrow(81).cut(0x8000, 0), 80, 1);
        Due.is("first", bench.house.out(0, 6), 0xa0);
        Due.is("last", bench.house.out(1, 6), 0x80);
    }

    /** The options of later pieces that are due for these of the first one. */
    private static void options(int[] first, int... later) {
        byte[] data = Pack.count(1, 90);
        Pack pack = Pack.to(Bench.NARROW).options(first).data(data);
        int room = (80 - first.length) / 8 * 8;
        Bench bench = withMtu(100);
        Due.is("outcome", bench.take(pack, 0), 26);
        pack.hops(63);
        bench.outHas("first", 0, pack.cut(Pack.MORE, 0).data(Pack.part(data, 0, room)).bytes(), 1, Bench.GATE);
        pack.options(later);
        int left = 90 - room;
        int part = left <= 80 - later.length ? left : (80 - later.length) / 8 * 8;
        pack.cut(part == left ? 0 : Pack.MORE, room / 8).data(Pack.part(data, room, room + part));
        bench.outHas("second", 1, pack.bytes(), 1, Bench.GATE);
    }

    static void optionsBelow128StayInTheFirst() {
        options(new int[] {127, 4, 1, 2});
        options(new int[] {2, 2, 7, 2});
    }

    static void optionsOf128AndAboveGoOn() {
        options(new int[] {128, 4, 1, 2}, 128, 4, 1, 2);
        options(new int[] {255, 2, 129, 2}, 255, 2, 129, 2);
    }

    static void optionsOfOneByteStayInTheFirst() {
        options(new int[] {1, 1, 1, 1});
        options(new int[] {1, 131, 3, 9, 1, 1, 1, 1}, 131, 3, 9, 0);
    }

    static void optionsGoOnInTheirOrder() {
        options(new int[] {200, 3, 9, 7, 2, 131, 4, 1, 2, 130, 3, 5}, 200, 3, 9, 131, 4, 1, 2, 130, 3, 5, 0, 0);
    }

    static void optionsAreFilledWithZerosToAFullWord() {
        options(new int[] {131, 2, 1, 1}, 131, 2, 0, 0);
        options(new int[] {131, 3, 9, 1}, 131, 3, 9, 0);
        options(new int[] {131, 5, 9, 9, 9, 1, 1, 1}, 131, 5, 9, 9, 9, 0, 0, 0);
        options(new int[] {131, 4, 9, 9, 1, 1, 1, 1}, 131, 4, 9, 9);
    }

    static void optionsAreFilledWithZerosWhateverWasCutBefore() {
        Bench bench = withMtu(100);
        cut(bench, narrow(100).options(131, 8, 9, 9, 9, 9, 9, 9), 72, 28);
        cut(bench, narrow(100).options(131, 2, 1, 1), 72, 28);
        for (int k = 20; k < 24; k++) {
            Due.is("byte " + k, bench.house.out(1, k), k == 20 ? 131 : k == 21 ? 2 : 0);
        }
    }

    static void optionsBehindTheEndDoNotGoOn() {
        options(new int[] {68, 2, 0, 130, 130, 2, 130, 2});
        options(new int[] {131, 2, 0, 130, 130, 2, 130, 2}, 131, 2, 0, 0);
        options(new int[] {0, 131, 3, 9});
        // As an option of its own, the 0 would be one of two bytes.
        options(new int[] {0, 2, 131, 2});
        options(new int[] {131, 3, 9, 0, 2, 131, 2, 1}, 131, 3, 9, 0);
    }

    static void bytesOfAnOptionAreNotTakenForOptions() {
        options(new int[] {7, 8, 131, 2, 0, 131, 3, 9});
        options(new int[] {131, 8, 7, 2, 0, 1, 0, 9}, 131, 8, 7, 2, 0, 1, 0, 9);
    }

    static void fortyBytesOfOptionsGoOn() {
        int[] options = new int[40];
        options[0] = 255;
        options[1] = 40;
        options(options, options);
        int[] parts = filled(49, 40);
        parts[48] = 20;
        cut(narrow(1940).options(options), parts);
    }

    static void fortyBytesOfOptionsStayAndLeaveRoom() {
        int[] options = new int[40];
        options[0] = 127;
        options[1] = 40;
        cut(narrow(120).options(options), 40, 80);
        cut(narrow(121).options(options), 40, 80, 1);
    }

    static void optionsCountForTheMtu() {
        Bench bench = withMtu(100);
        Due.is("100 bytes", bench.take(narrow(76).options(1, 1, 1, 1), 0), 25);
        cut(narrow(77).options(1, 1, 1, 1), 72, 5);
    }
}
