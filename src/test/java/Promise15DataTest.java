/** data: a byte of what was delivered latest. */
public final class Promise15DataTest {
    public static void main(String[] args) {
        Bench bench = new Bench();
        RouteHouse house = bench.house;
        Due.is("nothing was delivered", house.data(0), RouteHouse.NONE);
        bench.take(Pack.to(Bench.HERE).data(Pack.count(200, 60)), 0);
        for (int k = 0; k < 60; k++) {
            Due.is("byte " + k, house.data(k), (200 + k) % 256);
        }
        Due.is("behind", house.data(60), RouteHouse.NONE);
        Due.is("before", house.data(-1), RouteHouse.NONE);
        Due.is("far behind", house.data(Integer.MAX_VALUE), RouteHouse.NONE);
        Due.is("far before", house.data(Integer.MIN_VALUE), RouteHouse.NONE);
        bench.take(Pack.to(Bench.WIDE).data(Pack.count(1, 3)), 0);
        bench.take(Pack.to(Bench.HERE).protocol(1).data(Pack.control(8, 0, Pack.count(1, 9))), 0);
        house.pass(50);
        Due.is("it stays", house.data(59), 259 - 256);
        bench.take(Pack.to(Bench.HERE).data(9), 0);
        Due.is("the latest", house.data(0), 9);
        Due.is("the latest alone", house.data(1), RouteHouse.NONE);
        bench.take(Pack.to(Bench.HERE), 0);
        Due.is("delivered without data", house.data(0), RouteHouse.NONE);
        Due.close();
    }
}
