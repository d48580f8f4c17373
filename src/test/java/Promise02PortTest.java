/** port: a port's address and MTU. */
public final class Promise02PortTest {
    public static void main(String[] args) {
        addressTakesEffect();
        mtuTakesEffect();
        wrongNumbers();
        Due.close();
    }

    private static void addressTakesEffect() {
        Bench bench = new Bench();
        int address = Pack.ip(200, 1, 2, 3);
        Due.is("not an own address yet", bench.take(Pack.to(address), 0), 22);
        bench.house.port(7, address, 100);
        Due.is("own address", bench.take(Pack.to(address), 0), 13);
        bench.house.port(7, 0, 100);
        Due.is("own address no more", bench.take(Pack.to(address), 0), 22);
        bench.house.port(7, address, 100);
        bench.house.up(7, false);
        Due.is("own address of a port that is down", bench.take(Pack.to(address), 0), 13);
        Due.is("address 0 is nobody's", bench.take(Pack.to(0), 0), 20);
        bench.house.port(6, Pack.ip(127, 0, 0, 5), 100);
        Due.is("own address before any other look at it", bench.take(Pack.to(Pack.ip(127, 0, 0, 5)).hops(0), 0), 13);
    }

    private static void mtuTakesEffect() {
        Bench bench = new Bench();
        for (int mtu : new int[] {100, 101, 1499, 1500}) {
            bench.house.port(2, 0, mtu);
            Pack pack = Pack.to(Bench.WIDE).data(Pack.count(0, mtu - 20));
            Due.is("as long as the mtu " + mtu, bench.take(pack, 0), 25);
            pack.data(Pack.count(0, mtu - 19));
            Due.is("longer than the mtu " + mtu, bench.take(pack, 0), 26);
        }
    }

    private static void wrongNumbers() {
        Bench bench = new Bench();
        RouteHouse house = bench.house;
        Due.noSuch("port -1", () -> house.port(-1, 1, 1500));
        Due.noSuch("port 8", () -> house.port(8, 1, 1500));
        Due.noSuch("port before mtu", () -> house.port(8, 1, 0));
        Due.badNumber("mtu 99", () -> house.port(0, 1, 99));
        Due.badNumber("mtu 1501", () -> house.port(0, 1, 1501));
        Due.badNumber("mtu -5", () -> house.port(0, 1, -5));
        Due.is("the address stays", bench.take(Pack.to(Bench.HERE), 0), 13);
        house.port(0, -1, 100);
        Due.is("the highest address", bench.take(Pack.to(-1), 0), 13);
    }
}
