/** feed: twenty bytes come behind the tape. */
public final class Promise07FeedTest {
    public static void main(String[] args) {
        Bench bench = new Bench();
        RouteHouse house = bench.house;
        byte[] packet = Pack.to(Bench.HERE).data(Pack.count(200, 80)).bytes();
        bench.lay(packet);
        Due.is("received", house.receive(0), 13);
        Due.is("bytes in their order", bench.delivered(), Pack.count(200, 80));
        for (int i = 1; i <= 100; i++) {
            Due.is("how many", house.feed(i, -1, i, -1, i), 20 * i);
        }
        Due.refused("beyond 2000", IllegalStateException.class, () -> house.feed(1, 2, 3, 4, 5));
        Due.is("the tape stays", house.about(10), 2000);
        house.end(1981);
        Due.refused("beyond 2000 by one", IllegalStateException.class, () -> house.feed(1, 2, 3, 4, 5));
        house.end(1980);
        Due.is("up to 2000", house.feed(1, 2, 3, 4, 5), 2000);
        house.end(3);
        Due.is("behind three", house.feed(1, 2, 3, 4, 5), 23);
        longest();
        Due.close();
    }

    private static void longest() {
        Bench bench = new Bench();
        byte[] data = Pack.count(3, 1980);
        bench.lay(Pack.to(Bench.HERE).data(data).bytes());
        Due.is("all of 2000 bytes", bench.house.receive(0), 13);
        Due.is("last byte", bench.house.data(1979), data[1979] & 255);
    }
}
