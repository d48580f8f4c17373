/** up: a port is up or down. */
public final class Promise03UpTest {
    public static void main(String[] args) {
        Bench bench = new Bench();
        RouteHouse house = bench.house;
        Due.is("up at first", house.up(2, false), true);
        Due.is("down then", house.up(2, false), false);
        Due.is("others stay up", house.up(1, true), true);
        Due.is("its route is down", bench.take(Pack.to(Bench.WIDE), 0), 23);
        Due.is("down before up", house.up(2, true), false);
        Due.is("its route is up", bench.take(Pack.to(Bench.WIDE), 0), 25);
        house.up(0, false);
        Due.is("a packet comes at a port that is down", bench.take(Pack.to(Bench.WIDE), 0), 25);
        Due.noSuch("port -1", () -> house.up(-1, true));
        Due.noSuch("port 8", () -> house.up(8, false));
        Due.close();
    }
}
