/** copy: a packet of the out comes on the tape. */
public final class Promise10CopyTest {
    public static void main(String[] args) {
        Bench bench = new Bench();
        RouteHouse house = bench.house;
        Due.noSuch("nothing was sent", () -> house.copy(0));
        byte[] data = Pack.count(5, 150);
        bench.take(Pack.to(Bench.NARROW).data(data).hops(9), 0);
        Due.is("pieces", house.about(1), 2);
        byte[] second = bench.outRow(1);
        house.feed(1, 2, 3, 4, 5);
        house.feed(1, 2, 3, 4, 5);
        Due.noSuch("packet 2", () -> house.copy(2));
        Due.noSuch("packet -1", () -> house.copy(-1));
        Due.is("the tape stays", house.about(10), 40);
        Due.is("the longer one", house.copy(0), 100);
        Due.is("the shorter one in its place", house.copy(1), second.length);
        Due.is("on the tape", house.about(10), second.length);
        Due.is("the out stays", house.about(1), 2);
        Due.is("it is received", house.receive(0), 25);
        byte[] want = Pack.to(Bench.NARROW).data(Pack.part(data, 80, 150)).cut(0, 10).hops(7).bytes();
        bench.outIs("sent on again", want, 1, Bench.GATE);
        errorsToo();
        Due.close();
    }

    private static void errorsToo() {
        Bench bench = new Bench();
        bench.house.port(3, Bench.PEER, 1500);
        bench.take(Pack.to(Bench.LOST), 0);
        Due.is("an error of a packet without data", bench.house.copy(0), 48);
        Due.is("it is for a port's address", bench.house.receive(1), 12);
    }
}
