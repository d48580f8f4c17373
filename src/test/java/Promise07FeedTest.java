/** feed: twenty bytes come behind the tape, the highest of each number first: how many it has. */
public final class Promise07FeedTest {
    public static void main(String[] args) {
        Due.cases(Promise07FeedTest.class);
    }

    private static Bench withTape(int length) {
        Bench bench = new Bench();
        bench.lay(new byte[length]);
        return bench;
    }

    static void highestByteOfEachNumberComesFirst() {
        Bench bench = new Bench();
        bench.lay(Pack.to(Bench.HERE).data(Pack.count(0, 20)).bytes());
        bench.house.end(20);
        bench.house.feed(0xf1f2f3f4, 0x01020304, 0x80000001, -2, 0x7f00ff00);
        bench.house.receive(0);
        byte[] want = Pack.row(0xf1, 0xf2, 0xf3, 0xf4, 1, 2, 3, 4, 128, 0, 0, 1, 255, 255, 255, 254, 127, 0, 255, 0);
        Due.is("bytes", bench.delivered(), want);
    }

    static void answersHowManyBytesUpTo2000() {
        RouteHouse house = new RouteHouse();
        for (int i = 1; i <= 100; i++) {
            Due.is("bytes", house.feed(i, -1, i, -1, i), 20 * i);
        }
        Due.is("about", house.about(10), 2000);
    }

    static void fullTapeIsRefused() {
        Busy.refuses("beyond 2000", IllegalStateException.class, new byte[1973], house -> house.feed(1, 2, 3, 4, 5));
    }

    static void tapeOf1981IsRefused() {
        Busy.refuses("to 2001", IllegalStateException.class, new byte[1954], house -> house.feed(1, 2, 3, 4, 5));
    }

    static void tapeOf1980IsFilledUp() {
        Bench bench = withTape(1980);
        Due.is("bytes", bench.house.feed(1, 2, 3, 4, 5), 2000);
    }

    static void tapeOf1979IsFedTo1999() {
        Bench bench = withTape(1979);
        Due.is("bytes", bench.house.feed(1, 2, 3, 4, 5), 1999);
        Due.refused("and no more", IllegalStateException.class, () -> bench.house.feed(1, 2, 3, 4, 5));
    }

    static void comesBehindATapeOfAnyLength() {
        byte[] row = Pack.to(Bench.HERE).data(Pack.count(0, 60)).bytes();
        for (int length = 40; length <= 60; length++) {
            Bench bench = new Bench();
            bench.lay(row);
            bench.house.end(length);
            Due.is("bytes", bench.house.feed(-1, -1, -1, -1, -1), length + 20);
            // The packet is 80 bytes long, so it needs the rest.
            bench.house.feed(-1, -1, -1, -1, -1);
            Due.is("received", bench.house.receive(0), 13);
            byte[] want = row.clone();
            java.util.Arrays.fill(want, length, 80, (byte) 255);
            Due.is("behind " + length, bench.delivered(), Pack.part(want, 20, 80));
        }
    }

    static void allOf2000BytesAreKept() {
        byte[] data = Pack.count(3, 1980);
        for (int from = 0; from < 1980; from += 330) {
            Bench bench = new Bench();
            bench.lay(Pack.to(Bench.HERE).data(data).bytes());
            Due.is("received", bench.house.receive(0), 13);
            for (int k = from; k < from + 330; k++) {
                Due.is("byte " + k, bench.house.data(k), data[k] & 255);
            }
        }
    }

    static void beginsAnewWhenTheTapeWasReceived() {
        Bench bench = withTape(1990);
        bench.house.receive(0);
        Due.is("bytes", bench.house.feed(1, 2, 3, 4, 5), 20);
    }

    static void leavesTheOut() {
        Bench bench = new Bench();
        bench.take(Pack.to(Bench.WIDE), 0);
        bench.house.feed(1, 2, 3, 4, 5);
        bench.outIs("the out", Pack.to(Bench.WIDE).hops(63).bytes(), 2, Bench.WIDE);
    }
}
