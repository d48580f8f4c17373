/** out: a byte of a packet of the out. */
public final class Promise14OutTest {
    public static void main(String[] args) {
        Bench bench = new Bench();
        RouteHouse house = bench.house;
        Due.noSuch("nothing was sent", () -> house.out(0, 0));
        byte[] data = Pack.count(190, 100);
        Pack pack = Pack.to(Bench.NARROW).data(data);
        bench.take(pack, 0);
        pack.hops(63);
        byte[] first = pack.cut(Pack.MORE, 0).data(Pack.part(data, 0, 80)).bytes();
        byte[] second = pack.cut(0, 10).data(Pack.part(data, 80, 100)).bytes();
        for (int k = 0; k < first.length; k++) {
            Due.is("byte " + k + " of the first", house.out(0, k), first[k] & 255);
        }
        for (int k = 0; k < second.length; k++) {
            Due.is("byte " + k + " of the second", house.out(1, k), second[k] & 255);
        }
        Due.noSuch("behind the first", () -> house.out(0, 100));
        Due.noSuch("behind the second", () -> house.out(1, 40));
        Due.noSuch("before the second", () -> house.out(1, -1));
        Due.noSuch("packet 2", () -> house.out(2, 0));
        Due.noSuch("packet -1", () -> house.out(-1, 0));
        house.pass(0);
        Due.noSuch("empty again", () -> house.out(0, 0));
        Due.close();
    }
}
