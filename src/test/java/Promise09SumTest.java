import java.util.Arrays;

/** sum: the tape's bytes 10 and 11 become the sum of a header of so many words. */
public final class Promise09SumTest {
    public static void main(String[] args) {
        Due.cases(Promise09SumTest.class);
    }

    private static Pack strange(int identity) {
        return Pack.to(Bench.HERE).protocol(99).identity(identity);
    }

    private static Pack words(int words) {
        Pack pack = strange(0xabcd).data(Pack.count(5, 50));
        pack.options = new byte[words * 4 - 20];
        Arrays.fill(pack.options, (byte) 1);
        return pack;
    }

    /** The identity with which the packet has this sum. */
    private static int identityForSum(int sum) {
        for (int identity = 0; identity < 65536; identity++) {
            byte[] row = strange(identity).bytes();
            if (((row[10] & 255) << 8 | row[11] & 255) == sum) {
                return identity;
            }
        }
        throw new IllegalStateException("no identity has this sum");
    }

    /** An error quotes the header as it came, so that the sum can be read. */
    private static void sumIsWritten(Pack pack) {
        Bench bench = new Bench();
        byte[] packet = pack.bytes();
        byte[] other = packet.clone();
        other[10] = 77;
        other[11] = 78;
        int header = (packet[0] & 15) * 4;
        bench.lay(other);
        bench.house.sum(header / 4);
        Due.is("taken", bench.house.receive(0), 14);
        Due.is("header", Pack.part(bench.outRow(0), 28, 28 + header), Pack.part(packet, 0, header));
    }

    static void fiveToFifteenWordsAreSummed() {
        for (int words = 5; words <= 15; words++) {
            sumIsWritten(words(words));
        }
    }

    static void fourWordsAreRefused() {
        Busy.badNumber("4 words", house -> house.sum(4));
    }

    static void sixteenWordsAreRefused() {
        Busy.refuses("16 words", IllegalArgumentException.class, new byte[60], house -> house.sum(16));
    }

    static void wordsFarOutsideAreRefused() {
        // Four times some of these wraps around to what a tape has.
        int[] numbers = {
            0, -1, -5, 1 << 30, (1 << 30) + 5, Integer.MIN_VALUE, Integer.MIN_VALUE + 5, Integer.MAX_VALUE,
        };
        for (int words : numbers) {
            Busy.badNumber(words + " words", house -> house.sum(words));
        }
    }

    static void tapeWithLessBytesIsRefused() {
        Busy.badNumber("7 words of 27 bytes", house -> house.sum(7));
        Busy.badNumber("15 words of 27 bytes", house -> house.sum(15));
        Busy.refuses("15 words of 59 bytes", IllegalArgumentException.class, new byte[32], house -> house.sum(15));
    }

    static void tapeOfJustSoManyBytesIsSummed() {
        for (int words = 5; words <= 15; words++) {
            sumIsWritten(words(words).data());
        }
    }

    static void emptyTapeIsRefused() {
        RouteHouse house = new RouteHouse();
        Due.badNumber("5 words", () -> house.sum(5));
    }

    static void tapeOf19BytesIsRefused() {
        RouteHouse house = new RouteHouse();
        house.feed(1, 2, 3, 4, 5);
        house.end(19);
        Due.badNumber("5 words", () -> house.sum(5));
        Due.is("bytes", house.about(10), 19);
    }

    static void lessWordsThanTheHeaderHasAreAnotherSum() {
        Bench bench = new Bench();
        bench.lay(words(6).bytes());
        bench.house.sum(5);
        Due.is("received", bench.house.receive(0), 5);
    }

    static void moreWordsThanTheHeaderHasAreAnotherSum() {
        Bench bench = new Bench();
        bench.lay(words(5).bytes());
        bench.house.sum(6);
        Due.is("received", bench.house.receive(0), 5);
    }

    static void bytesThatStoodThereAreNotCounted() {
        for (int stood : new int[] {0, 1, 0x8000, 0xfffe, 0xffff}) {
            Bench bench = new Bench();
            byte[] packet = strange(5).bytes();
            Pack.put(packet, 10, 2, stood);
            bench.lay(packet);
            bench.house.sum(5);
            bench.house.sum(5);
            Due.is("received", bench.house.receive(0), 14);
        }
    }

    static void sumMayBeZero() {
        sumIsWritten(strange(identityForSum(0)));
    }

    static void sumMayBeOne() {
        sumIsWritten(strange(identityForSum(1)));
    }

    static void sumMayBe65534() {
        sumIsWritten(strange(identityForSum(0xfffe)));
    }

    static void whatGoesBeyond16BitsIsAddedAgain() {
        sumIsWritten(strange(0).from(0x0a000009));
        sumIsWritten(strange(0xffff).from(0xdfffffff));
    }

    static void whatGoesBeyond16BitsASecondTimeIsAddedAgainToo() {
        int twice = 0;
        for (int identity = 0x9080; identity < 0x9090; identity++) {
            Pack pack = strange(identity).from(0xdfffffff);
            twice += goesBeyondTwice(pack.bytes()) ? 1 : 0;
            sumIsWritten(pack);
        }
        Due.is("some of these do", twice > 0, true);
    }

    private static boolean goesBeyondTwice(byte[] row) {
        int total = 0;
        for (int at = 0; at < 20; at += 2) {
            total += at == 10 ? 0 : (row[at] & 255) << 8 | row[at + 1] & 255;
        }
        return (total & 65535) + (total >> 16) > 65535;
    }

    static void nothingElseOfTheTapeChanges() {
        Bench bench = new Bench();
        Pack pack = Pack.to(Bench.HERE).data(Pack.count(200, 33));
        bench.lay(pack.bytes());
        bench.house.sum(5);
        Due.is("bytes", bench.house.about(10), 53);
        Due.is("received", bench.house.receive(0), 13);
        Due.is("data", bench.delivered(), Pack.count(200, 33));
    }
}
