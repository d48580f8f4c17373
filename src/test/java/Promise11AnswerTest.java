import java.util.Arrays;

/** receive: what an answer is made of, and where it goes out. */
public final class Promise11AnswerTest {
    public static void main(String[] args) {
        Due.cases(Promise11AnswerTest.class);
    }

    private static Pack request(int data) {
        return Pack.to(Bench.THERE).protocol(1).identity(500).data(Pack.control(8, 0, Pack.count(3, data - 4)));
    }

    private static byte[] answerData(int data) {
        return Pack.control(0, 0, Pack.count(3, data - 4));
    }

    /** The answer before it is cut. */
    private static Pack answer(int identity, Pack request, byte[] data) {
        return Pack.to(request.source).from(request.destination).identity(identity).protocol(1).data(data);
    }

    static void hasTheRequestsDataWithZeroAndANewSum() {
        for (int data = 8; data < 40; data++) {
            Bench bench = new Bench();
            Due.is("outcome", bench.take(request(data), 0), 11);
            bench.outIs(data + " bytes", answer(0, request(data), answerData(data)).bytes(), 0, 0);
        }
    }

    static void keepsTheRequestsCode() {
        Bench bench = new Bench();
        Pack request = request(8).data(Pack.control(8, 5, Pack.count(1, 4)));
        bench.take(request, 0);
        bench.outIs("code 5", answer(0, request, Pack.control(0, 5, Pack.count(1, 4))).bytes(), 0, 0);
    }

    static void sumMayBeZero() {
        Bench bench = new Bench();
        Pack request = request(8).data(Pack.control(8, 0, Pack.row(0xff, 0xff, 0, 0)));
        bench.take(request, 0);
        byte[] data = Pack.row(0, 0, 0, 0, 0xff, 0xff, 0, 0);
        bench.outIs("sum 0", answer(0, request, data).bytes(), 0, 0);
    }

    static void sumOfNothingButZeroIs65535() {
        Bench bench = new Bench();
        Pack request = request(8).data(Pack.control(8, 0, new byte[4]));
        bench.take(request, 0);
        byte[] data = Pack.row(0, 0, 0xff, 0xff, 0, 0, 0, 0);
        bench.outIs("sum 65535", answer(0, request, data).bytes(), 0, 0);
    }

    static void takesNothingFromTheRequestsHeader() {
        Bench bench = new Bench();
        Pack request = request(8).service(7).hops(1).cut(0xc000, 0).options(130, 4, 9, 9);
        bench.take(request, 0);
        bench.outIs("a header of its own", answer(0, request, answerData(8)).bytes(), 0, 0);
    }

    static void comesFromThePacketsDestination() {
        Bench bench = new Bench();
        Pack request = request(8);
        bench.take(request, 0);
        Due.is("its last two bytes", bench.house.out(0, 14) * 256 + bench.house.out(0, 15), Bench.THERE & 65535);
        Due.is("at the port where it came", bench.house.sent(0, 1), 0);
        Due.is("next address", bench.house.sent(0, 2), 0);
    }

    static void identityIsTheNumberOfErrorsAndAnswersBefore() {
        Bench bench = new Bench();
        for (int i = 0; i < 3; i++) {
            bench.take(request(8), 0);
            bench.outIs("answer", answer(2 * i, request(8), answerData(8)).bytes(), 0, 0);
            bench.take(Pack.to(Bench.LOST), 0);
            Due.is("error's identity", bench.house.out(0, 5), 2 * i + 1);
        }
    }

    static void takesNoToken() {
        Bench bench = new Bench();
        bench.take(request(8), 0);
        Due.is("tokens", bench.house.about(3), 6);
    }

    static void goesOutWithoutAToken() {
        Bench bench = new Bench();
        bench.spendTokens();
        Due.is("outcome", bench.take(request(8), 0), 11);
        bench.outIs("answer", answer(6, request(8), answerData(8)).bytes(), 0, 0);
        Due.is("tokens", bench.house.about(3), 0);
    }

    static void isNotSentAtAPortThatIsDown() {
        Bench bench = new Bench();
        bench.house.up(0, false);
        Due.is("outcome", bench.take(request(8), 0), 11);
        bench.silent("down", 6);
        Due.is("not counted", bench.house.about(4), 0);
        bench.house.up(0, true);
        bench.house.up(1, false);
        bench.take(request(8), 0);
        bench.outIs("the other port's state is nothing", answer(0, request(8), answerData(8)).bytes(), 0, 0);
    }

    static void goesToSourceZeroToo() {
        Bench bench = new Bench();
        Pack request = request(8).from(0);
        Due.is("outcome", bench.take(request, 0), 11);
        bench.outIs("answer", answer(0, request, answerData(8)).bytes(), 0, 0);
    }

    static void asLongAsTheMtuIsOnePacket() {
        Bench bench = new Bench();
        bench.take(request(80), 1);
        bench.outIs("100 bytes", answer(0, request(80), answerData(80)).bytes(), 1, 0);
    }

    static void longerThanTheMtuByOneIsTwoPieces() {
        Bench bench = new Bench();
        bench.take(request(81), 1);
        Due.is("pieces", bench.house.about(1), 2);
        byte[] data = answerData(81);
        Pack piece = answer(0, request(81), data);
        bench.outHas("first", 0, piece.cut(Pack.MORE, 0).data(Arrays.copyOf(data, 80)).bytes(), 1, 0);
        bench.outHas("second", 1, piece.cut(0, 10).data(Pack.part(data, 80, 81)).bytes(), 1, 0);
    }

    static void isCutThoughTheRequestIsUncut() {
        Bench bench = new Bench();
        Due.is("outcome", bench.take(request(178).cut(Pack.UNCUT, 0), 1), 11);
        Due.is("pieces", bench.house.about(1), 3);
        for (int i = 0; i < 3; i++) {
            Due.is("without UNCUT", bench.house.out(i, 6), i < 2 ? 32 : 0);
        }
    }

    static void inPiecesCountsOnce() {
        Bench bench = new Bench();
        bench.take(request(178), 1);
        Due.is("pieces", bench.house.about(1), 3);
        Due.is("counted", bench.house.about(4), 1);
        for (int i = 0; i < 3; i++) {
            Due.is("one identity", bench.house.out(i, 5), 0);
        }
        bench.take(request(8), 0);
        Due.is("the next one's identity", bench.house.out(0, 5), 1);
    }

    /** All of the longest answer, piece by piece, each read from an object of its own. */
    static void longestIsFiftyPieces() {
        byte[] request = Pack.control(8, 0, Pack.count(1, 3996));
        byte[] answer = Pack.control(0, 0, Pack.count(1, 3996));
        Pack own = Pack.to(Bench.PEER).from(Bench.HERE).protocol(1);
        for (int i = 0; i < 50; i++) {
            Bench bench = new Bench();
            Pack piece = Pack.to(Bench.HERE).protocol(1).identity(3);
            bench.take(piece.cut(0, 260).data(Pack.part(request, 2080, 4000)), 0);
            bench.take(piece.cut(Pack.MORE, 40).data(Pack.part(request, 320, 2080)), 0);
            Due.is("outcome", bench.take(piece.cut(Pack.MORE, 0).data(Pack.part(request, 0, 320)), 1), 11);
            Due.is("pieces", bench.house.about(1), 50);
            own.identity(0).cut(i < 49 ? Pack.MORE : 0, 10 * i).data(Pack.part(answer, 80 * i, 80 * i + 80));
            bench.outHas("piece", i, own.bytes(), 1, 0);
        }
    }
}
