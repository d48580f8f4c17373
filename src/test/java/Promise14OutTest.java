/** out: byte k of packet i of the out. */
public final class Promise14OutTest {
    public static void main(String[] args) {
        Due.cases(Promise14OutTest.class);
    }

    /** The out has two pieces, of 100 and of 40 bytes. */
    private static Bench twoPieces() {
        Bench bench = new Bench();
        bench.take(Pack.to(Bench.NARROW).data(Pack.count(190, 100)), 0);
        return bench;
    }

    static void tellsEachByteOfEachPacket() {
        Bench bench = twoPieces();
        Pack pack = Pack.to(Bench.NARROW).hops(63);
        byte[] first = pack.cut(Pack.MORE, 0).data(Pack.count(190, 80)).bytes();
        byte[] second = pack.cut(0, 10).data(Pack.count(190 + 80, 20)).bytes();
        for (int k = 0; k < first.length; k++) {
            Due.is("byte " + k + " of the first", bench.house.out(0, k), first[k] & 255);
        }
        for (int k = 0; k < second.length; k++) {
            Due.is("byte " + k + " of the second", bench.house.out(1, k), second[k] & 255);
        }
    }

    static void bytesHaveNoSign() {
        Bench bench = new Bench();
        bench.take(Pack.to(Bench.WIDE).data(0, 127, 128, 255), 0);
        int[] want = {0, 127, 128, 255};
        for (int k = 0; k < 4; k++) {
            Due.is("byte", bench.house.out(0, 20 + k), want[k]);
        }
    }

    static void lastByteOfTheLongestPacket() {
        Bench bench = new Bench();
        bench.house.port(2, 0, 1500);
        bench.take(Pack.to(Bench.WIDE).data(Pack.count(1, 1480)), 0);
        Due.is("byte 1499", bench.house.out(0, 1499), 1480 & 255);
        Due.noSuch("byte 1500", () -> bench.house.out(0, 1500));
    }

    static void byteBelowZeroIsRefused() {
        Busy.noSuch("byte -1", house -> house.out(0, -1));
        Busy.noSuch("the lowest number", house -> house.out(0, Integer.MIN_VALUE));
        Bench bench = twoPieces();
        Due.noSuch("byte -1 of the second", () -> bench.house.out(1, -1));
    }

    static void byteBehindTheLastIsRefused() {
        Busy.noSuch("byte 21 of 21", house -> house.out(0, 21));
        Busy.noSuch("the highest number", house -> house.out(0, Integer.MAX_VALUE));
        Bench bench = twoPieces();
        Due.noSuch("byte 100 of the first", () -> bench.house.out(0, 100));
        Due.noSuch("byte 40 of the second", () -> bench.house.out(1, 40));
    }

    static void packetBelowZeroIsRefused() {
        Busy.noSuch("packet -1", house -> house.out(-1, 0));
        Busy.noSuch("the lowest number", house -> house.out(Integer.MIN_VALUE, 0));
    }

    static void packetBehindTheLastIsRefused() {
        Busy.noSuch("packet 1 of one", house -> house.out(1, 0));
        Busy.noSuch("the highest number", house -> house.out(Integer.MAX_VALUE, 0));
    }

    static void emptyOutHasNoByte() {
        Bench bench = new Bench();
        Due.noSuch("new", () -> bench.house.out(0, 0));
        bench.take(Pack.to(Bench.WIDE), 0);
        bench.house.pass(0);
        Due.noSuch("after a pass", () -> bench.house.out(0, 0));
        bench.take(Pack.to(Bench.WIDE), 0);
        bench.house.receive(0);
        Due.noSuch("after a receive", () -> bench.house.out(0, 0));
    }

    static void bytesOfALongerPacketBeforeAreGone() {
        Bench bench = twoPieces();
        bench.take(Pack.to(Bench.WIDE), 0);
        Due.noSuch("byte 20 of 20", () -> bench.house.out(0, 20));
        Due.noSuch("packet 1", () -> bench.house.out(1, 0));
    }

    static void staysUntilTheNextReceiveOrPass() {
        Bench bench = new Bench();
        RouteHouse house = bench.house;
        bench.take(Pack.to(Bench.WIDE).data(1, 2, 3), 0);
        house.feed(-1, -1, -1, -1, -1);
        house.end(7);
        house.port(2, 5, 200);
        house.up(2, false);
        house.unroute(Bench.WIDE, 24);
        house.copy(0);
        house.sum(5);
        Due.noSuch("a receive that is refused", () -> house.receive(8));
        Due.badNumber("a pass that is refused", () -> house.pass(-1));
        bench.outIs("all of it", Pack.to(Bench.WIDE).hops(63).data(1, 2, 3).bytes(), 2, Bench.WIDE);
    }
}
