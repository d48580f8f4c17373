/** copy: packet i of the out comes on the tape, in place of what is there: how many bytes. */
public final class Promise10CopyTest {
    private static final byte[] DATA = Pack.count(5, 150);

    public static void main(String[] args) {
        Due.cases(Promise10CopyTest.class);
    }

    /** The out has two pieces, of 100 and of 90 bytes. */
    private static Bench twoPieces() {
        Bench bench = new Bench();
        bench.take(Pack.to(Bench.NARROW).data(DATA).hops(9), 0);
        return bench;
    }

    static void answersHowManyBytes() {
        Bench bench = twoPieces();
        Due.is("the first", bench.house.copy(0), 100);
        Due.is("on the tape", bench.house.about(10), 100);
        Due.is("the last", bench.house.copy(1), 90);
        Due.is("on the tape", bench.house.about(10), 90);
    }

    static void comesInPlaceOfALongerTape() {
        Bench bench = twoPieces();
        bench.lay(new byte[2000]);
        Due.is("copied", bench.house.copy(1), 90);
        Due.is("on the tape", bench.house.about(10), 90);
    }

    static void comesInPlaceOfAShorterTape() {
        Bench bench = twoPieces();
        bench.lay(new byte[1]);
        Due.is("copied", bench.house.copy(0), 100);
        Due.is("on the tape", bench.house.about(10), 100);
    }

    static void eachByteIsCopied() {
        Bench bench = twoPieces();
        bench.house.copy(1);
        Due.is("received", bench.house.receive(0), 25);
        byte[] want = Pack.to(Bench.NARROW).data(Pack.part(DATA, 80, 150)).cut(0, 10).hops(7).bytes();
        bench.outIs("sent on again", want, 1, Bench.GATE);
    }

    static void longestPacketIsCopied() {
        Bench bench = new Bench();
        bench.house.port(2, 0, 1500);
        bench.take(Pack.to(Bench.WIDE).data(Pack.count(1, 1480)), 0);
        Due.is("copied", bench.house.copy(0), 1500);
        bench.house.port(3, Bench.WIDE, 1500);
        Due.is("received", bench.house.receive(0), 13);
        Due.is("data", bench.house.about(9), 1480);
        Due.is("the last byte", bench.house.data(1479), 1480 & 255);
    }

    static void errorIsCopied() {
        Bench bench = new Bench();
        bench.house.port(3, Bench.PEER, 1500);
        bench.take(Pack.to(Bench.LOST), 0);
        Due.is("copied", bench.house.copy(0), 48);
        Due.is("it is for a port's address", bench.house.receive(1), 12);
    }

    static void outStays() {
        Bench bench = twoPieces();
        bench.house.copy(0);
        Due.is("packets", bench.house.about(1), 2);
        Due.is("copied again", bench.house.copy(0), 100);
    }

    static void tapeMayBeChangedWithoutTheOut() {
        Bench bench = twoPieces();
        byte[] before = bench.outRow(0);
        bench.house.copy(0);
        bench.house.end(12);
        bench.house.feed(-1, -1, -1, -1, -1);
        Due.is("the out", bench.outRow(0), before);
    }

    static void emptyOutIsRefused() {
        Bench bench = new Bench();
        bench.lay(new byte[7]);
        Due.noSuch("packet 0", () -> bench.house.copy(0));
        Due.is("the tape stays", bench.house.about(10), 7);
    }

    static void packetBelowZeroIsRefused() {
        Busy.noSuch("packet -1", house -> house.copy(-1));
        Busy.noSuch("the lowest number", house -> house.copy(Integer.MIN_VALUE));
    }

    static void packetBehindTheLastIsRefused() {
        Busy.noSuch("packet 1 of one", house -> house.copy(1));
        Busy.noSuch("the highest number", house -> house.copy(Integer.MAX_VALUE));
    }

    static void packetOfAnEarlierOutIsRefused() {
        Bench bench = twoPieces();
        bench.take(Pack.to(Bench.WIDE), 0);
        Due.noSuch("packet 1", () -> bench.house.copy(1));
        Due.is("packet 0", bench.house.copy(0), 20);
    }
}
