/** A new object: no routes, no packets, six tokens; ports with the values that the terms tell. */
public final class Promise01NewObjectTest {
    public static void main(String[] args) {
        Due.cases(Promise01NewObjectTest.class);
    }

    private static Pack uncut(int length) {
        return Pack.to(Bench.WIDE).cut(Pack.UNCUT, 0).data(Pack.count(0, length - 20));
    }

    static void hasNoRoutes() {
        RouteHouse house = new RouteHouse();
        Due.is("routes", house.about(0), 0);
        for (int address : new int[] {0, 1, Bench.HERE, Integer.MAX_VALUE, Integer.MIN_VALUE, -1}) {
            Due.is("port", house.lookup(address, 0), RouteHouse.NONE);
            Due.is("bits", house.lookup(address, 1), RouteHouse.NONE);
            Due.is("next", house.lookup(address, 2), 0);
        }
        Due.is("no route to take away", house.unroute(0, 0), false);
    }

    static void hasNoPacketsInTheOut() {
        RouteHouse house = new RouteHouse();
        Due.is("packets", house.about(1), 0);
        Due.noSuch("sent", () -> house.sent(0, 0));
        Due.noSuch("out", () -> house.out(0, 0));
        Due.noSuch("copy", () -> house.copy(0));
    }

    static void hasNothingThatWaits() {
        RouteHouse house = new RouteHouse();
        Due.is("waiting", house.about(2), 0);
        Due.is("nothing goes", house.pass(100), 0);
    }

    static void hasSixTokens() {
        Due.is("tokens", new RouteHouse().about(3), 6);
    }

    static void hasSentNoErrorOrAnswer() {
        Bench bench = Bench.bare();
        Due.is("errors and answers", bench.house.about(4), 0);
        bench.take(Pack.to(Bench.LOST), 0);
        Due.is("identity of the first error", bench.house.out(0, 4) * 256 + bench.house.out(0, 5), 0);
    }

    static void beginsAtTimeZero() {
        Due.is("time", new RouteHouse().about(5), 0);
    }

    static void hasDeliveredNothing() {
        RouteHouse house = new RouteHouse();
        for (int what = 6; what <= 9; what++) {
            Due.is("about(" + what + ")", house.about(what), 0);
        }
        Due.is("data", house.data(0), RouteHouse.NONE);
    }

    static void hasAnEmptyTape() {
        RouteHouse house = new RouteHouse();
        Due.is("bytes", house.about(10), 0);
        Due.badNumber("it has not one byte", () -> house.end(1));
        Due.is("received", house.receive(0), 1);
    }

    static void hasEightPortsThatAreUp() {
        RouteHouse house = new RouteHouse();
        for (int port = 0; port < 8; port++) {
            Due.is("port " + port, house.up(port, true), true);
        }
    }

    static void hasPortsOfMtu1500() {
        for (int port = 0; port < 8; port++) {
            Bench bench = Bench.bare();
            bench.house.route(0, 0, port, 0);
            Due.is("1500 bytes at port " + port, bench.take(uncut(1500), 0), 25);
            Due.is("1501 bytes at port " + port, bench.take(uncut(1501), 0), 24);
            Due.is("the mtu that the error tells", bench.house.out(0, 26) * 256 + bench.house.out(0, 27), 1500);
        }
    }

    static void hasPortsOfAddressZero() {
        for (int port = 0; port < 8; port++) {
            Bench bench = Bench.bare();
            Pack lost = Pack.to(Bench.LOST);
            Due.is("no route", bench.take(lost, port), 22);
            bench.outIs("from address 0", Pack.error(0, 0, lost.bytes(), 3, 0, 0), port, 0);
            Due.is("0 is not the router's own", bench.take(Pack.to(0), port), 20);
        }
    }

    static void sharesNothingWithAnotherObject() {
        RouteHouse one = new RouteHouse();
        RouteHouse other = new RouteHouse();
        one.route(1, 32, 1, 1);
        one.feed(1, 2, 3, 4, 5);
        one.pass(5);
        one.up(3, false);
        Due.is("routes of the other", other.about(0), 0);
        Due.is("tape of the other", other.about(10), 0);
        Due.is("time of the other", other.about(5), 0);
        Due.is("port of the other", other.up(3, true), true);
    }

    static void isUsedForFiveHundredAndTwelveCalls() {
        RouteHouse house = new RouteHouse();
        for (int i = 0; i < 511; i++) {
            house.pass(100);
        }
        Due.is("the 512th call", house.about(5), 51100);
    }
}
