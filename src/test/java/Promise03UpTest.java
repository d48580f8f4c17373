/** up: a port is up or down: whether it was up. */
public final class Promise03UpTest {
    public static void main(String[] args) {
        Due.cases(Promise03UpTest.class);
    }

    static void answersWhetherItWasUp() {
        for (int port = 0; port < 8; port++) {
            RouteHouse house = new RouteHouse();
            Due.is("up at first, and stays so", house.up(port, true), true);
            Due.is("up, and goes down", house.up(port, false), true);
            Due.is("down, and stays so", house.up(port, false), false);
            Due.is("down, and comes up", house.up(port, true), false);
            Due.is("up again", house.up(port, true), true);
        }
    }

    static void otherPortsStay() {
        for (int port = 0; port < 8; port++) {
            RouteHouse house = new RouteHouse();
            house.up(port, false);
            for (int other = 0; other < 8; other++) {
                Due.is("port " + other, house.up(other, other != port), other != port);
            }
        }
    }

    static void portBelowZeroIsRefused() {
        Busy.noSuch("port -1", house -> house.up(-1, false));
        Busy.noSuch("the lowest number", house -> house.up(Integer.MIN_VALUE, true));
    }

    static void portAboveSevenIsRefused() {
        Busy.noSuch("port 8", house -> house.up(8, false));
        Busy.noSuch("the highest number", house -> house.up(Integer.MAX_VALUE, true));
    }

    static void routeOfAPortThatIsDownIsShut() {
        Bench bench = new Bench();
        bench.house.up(2, false);
        Due.is("down", bench.take(Pack.to(Bench.WIDE), 0), 23);
        bench.house.up(2, true);
        Due.is("up again", bench.take(Pack.to(Bench.WIDE), 0), 25);
    }

    static void packetsComeAtAPortThatIsDown() {
        Bench bench = new Bench();
        bench.house.up(0, false);
        Due.is("sent on", bench.take(Pack.to(Bench.WIDE), 0), 25);
        bench.outIs("sent on", Pack.to(Bench.WIDE).hops(63).bytes(), 2, Bench.WIDE);
        Due.is("delivered", bench.take(Pack.to(Bench.HERE).data(5), 0), 13);
        Due.is("its data", bench.house.data(0), 5);
        Due.is("a piece", bench.take(Pack.to(Bench.HERE).cut(Pack.MORE, 0).data(Pack.count(0, 8)), 0), 10);
        Due.is("kept", bench.house.about(2), 1);
    }

    static void addressOfAPortThatIsDownStaysOwn() {
        Bench bench = new Bench();
        bench.house.up(1, false);
        Due.is("to it", bench.take(Pack.to(Bench.THERE), 0), 13);
        Due.is("to it, at it", bench.take(Pack.to(Bench.THERE), 1), 13);
    }

    static void keepsAddressAndMtu() {
        Bench bench = new Bench();
        bench.house.up(1, false);
        bench.house.up(1, true);
        Due.is("address", bench.take(Pack.to(Bench.THERE), 0), 13);
        Due.is("mtu", bench.take(Pack.to(Bench.NARROW).data(Pack.count(0, 81)), 0), 26);
    }
}
