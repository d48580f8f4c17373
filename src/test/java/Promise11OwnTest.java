/** receive: outcomes 11 to 14 for what is the router's own and whole. */
public final class Promise11OwnTest {
    public static void main(String[] args) {
        answered();
        notAnswered();
        answerInPieces();
        answerCostsNoToken();
        delivered();
        otherProtocols();
        Due.close();
    }

    private static Pack request(byte[] rest) {
        return Pack.to(Bench.THERE).protocol(1).data(Pack.control(8, 0, rest));
    }

    private static byte[] answer(int identity, Pack request, byte[] data) {
        return Pack.to(request.source).from(request.destination).identity(identity).protocol(1).data(data).bytes();
    }

    private static void answered() {
        for (int many = 4; many < 12; many++) {
            Bench bench = new Bench();
            byte[] rest = Pack.count(250, many);
            Pack request = request(rest).service(7).identity(99).hops(1).cut(Pack.UNCUT, 0).options(7, 4, 0, 0);
            Due.is("request", bench.take(request, 0), 11);
            // It goes out at port 0, from the address that the request was for.
            bench.outIs("answer", answer(0, request, Pack.control(0, 0, rest)), 0, 0);
        }
        Bench bench = new Bench();
        Pack coded = request(new byte[0]).data(Pack.control(8, 5, Pack.count(1, 4)));
        Due.is("code 5", bench.take(coded, 0), 11);
        bench.outIs("code 5 stays", answer(0, coded, Pack.control(0, 5, Pack.count(1, 4))), 0, 0);
        Pack noSource = request(Pack.count(1, 4)).from(0);
        Due.is("source 0", bench.take(noSource, 0), 11);
        bench.outIs("source 0 has an answer", answer(1, noSource, Pack.control(0, 0, Pack.count(1, 4))), 0, 0);
        bench.house.up(0, false);
        Due.is("at a port that is down", bench.take(coded, 0), 11);
        bench.silent("at a port that is down", 6);
        Due.is("counted", bench.house.about(4), 2);
    }

    private static void notAnswered() {
        Bench bench = new Bench();
        Due.is("seven bytes", bench.take(request(Pack.count(1, 3)), 0), 12);
        byte[] data = Pack.control(8, 0, Pack.count(1, 8));
        data[5]++;
        Due.is("another sum", bench.take(request(data).data(data), 0), 12);
        Due.is("an answer", bench.take(request(data).data(Pack.control(0, 0, Pack.count(1, 8))), 0), 12);
        Due.is("a strange kind", bench.take(request(data).data(Pack.control(9, 0, Pack.count(1, 8))), 0), 12);
        Due.is("no data", bench.take(request(data).data(), 0), 12);
        bench.silent("all of them", 6);
        sumIsJustOne(bench);
    }

    private static void sumIsJustOne(Bench bench) {
        // 0800 and f7ff are 65535, whose sum is 0: 65535 is another one.
        byte[] data = Pack.row(8, 0, 0, 0, 0xf7, 0xff, 0, 0);
        Due.is("sum 0", bench.take(request(data).data(data), 0), 11);
        data[2] = data[3] = (byte) 255;
        Due.is("sum 65535 in its place", bench.take(request(data).data(data), 0), 12);
    }

    private static void answerInPieces() {
        Bench bench = new Bench();
        bench.take(Pack.to(Bench.LOST), 0);
        byte[] rest = Pack.count(3, 174);
        Pack request = request(rest).identity(500);
        Due.is("long request", bench.take(request, 1), 11);
        byte[] data = Pack.control(0, 0, rest);
        Pack piece = Pack.to(Bench.PEER).from(Bench.THERE).identity(1).protocol(1);
        Due.is("three pieces", bench.house.about(1), 3);
        bench.outHas("first", 0, piece.cut(Pack.MORE, 0).data(Pack.part(data, 0, 80)).bytes(), 1, 0);
        bench.outHas("second", 1, piece.cut(Pack.MORE, 10).data(Pack.part(data, 80, 160)).bytes(), 1, 0);
        bench.outHas("third", 2, piece.cut(0, 20).data(Pack.part(data, 160, 178)).bytes(), 1, 0);
        Due.is("counted once", bench.house.about(4), 2);
    }

    private static void answerCostsNoToken() {
        Bench bench = new Bench();
        for (int i = 0; i < 6; i++) {
            bench.take(Pack.to(Bench.LOST), 0);
        }
        Pack request = request(Pack.count(1, 4));
        Due.is("without a token", bench.take(request, 0), 11);
        bench.outIs("answer", answer(6, request, Pack.control(0, 0, Pack.count(1, 4))), 0, 0);
    }

    private static void delivered() {
        Bench bench = new Bench();
        Pack pack = Pack.to(Bench.THERE).from(Pack.ip(1, 2, 3, 4)).options(1, 1, 1, 1).hops(0).data(Pack.count(7, 70));
        Due.is("at another port than its address", bench.take(pack, 6), 13);
        bench.silent("delivered", 6);
        Due.is("data", bench.delivered(), Pack.count(7, 70));
        Due.is("source", bench.house.about(7), Pack.ip(1, 2, 3, 4));
        Due.is("destination", bench.house.about(8), Bench.THERE);
    }

    private static void otherProtocols() {
        for (int protocol : new int[] {0, 2, 6, 16, 18, 129, 145, 255}) {
            Bench bench = new Bench();
            byte[] packet = Pack.to(Bench.HERE).protocol(protocol).data(Pack.count(1, 12)).bytes();
            Due.is("protocol " + protocol, bench.take(packet, 1), 14);
            bench.outIs("protocol " + protocol, Pack.error(0, Bench.THERE, packet, 3, 2, 0), 1, 0);
            Due.is("not delivered", bench.house.about(6), 0);
        }
    }
}
