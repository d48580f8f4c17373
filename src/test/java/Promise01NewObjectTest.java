/** A new object: no routes, no packets, six tokens; ports with the values that the terms tell. */
public final class Promise01NewObjectTest {
    public static void main(String[] args) {
        RouteHouse house = new RouteHouse();
        for (int what = 0; what <= 10; what++) {
            Due.is("about(" + what + ")", house.about(what), what == 3 ? 6 : 0);
        }
        Due.is("data(0)", house.data(0), RouteHouse.NONE);
        Due.is("lookup port", house.lookup(0, 0), RouteHouse.NONE);
        Due.noSuch("sent(0, 0)", () -> house.sent(0, 0));
        Due.noSuch("out(0, 0)", () -> house.out(0, 0));
        Due.noSuch("copy(0)", () -> house.copy(0));
        Due.is("an empty tape is received", house.receive(0), 1);
        portsAtFirst();
        objectsAreApart();
        Due.close();
    }

    private static void portsAtFirst() {
        RouteHouse house = new RouteHouse();
        house.route(0, 0, 7, 0);
        Bench.lay(house, Pack.to(Bench.WIDE).cut(Pack.UNCUT, 0).data(Pack.count(0, 1480)).bytes());
        Due.is("1500 bytes fit a new port", house.receive(3), 25);
        Bench.lay(house, Pack.to(Bench.WIDE).cut(Pack.UNCUT, 0).data(Pack.count(0, 1481)).bytes());
        Due.is("1501 bytes do not fit a new port", house.receive(3), 24);
        Due.is("from a new port's address 0", house.out(0, 12), 0);
        for (int port = 0; port < 8; port++) {
            Due.is("a new port is up", house.up(port, true), true);
        }
    }

    private static void objectsAreApart() {
        RouteHouse one = new RouteHouse();
        RouteHouse other = new RouteHouse();
        one.route(1, 32, 1, 1);
        one.feed(1, 2, 3, 4, 5);
        one.pass(5);
        Due.is("routes of the other", other.about(0), 0);
        Due.is("tape of the other", other.about(10), 0);
        Due.is("time of the other", other.about(5), 0);
    }
}
