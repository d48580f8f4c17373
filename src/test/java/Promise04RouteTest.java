/** route: a route for the first bits of an address, in place of the one there: how many routes. */
public final class Promise04RouteTest {
    private static final int ADDRESS = Pack.ip(10, 1, 2, 3);

    public static void main(String[] args) {
        Due.cases(Promise04RouteTest.class);
    }

    /** A house with as many routes as there may be, all of 24 bits. */
    private static RouteHouse full() {
        RouteHouse house = new RouteHouse();
        for (int i = 0; i < 400; i++) {
            house.route(i << 8, 24, i % 8, i);
        }
        return house;
    }

    static void answersHowManyRoutes() {
        RouteHouse house = new RouteHouse();
        for (int i = 1; i <= 50; i++) {
            Due.is("routes", house.route(i << 24, 8, 1, 5), i);
        }
        Due.is("about", house.about(0), 50);
    }

    static void zeroBitsAreTaken() {
        RouteHouse house = new RouteHouse();
        Due.is("routes", house.route(-1, 0, 5, 9), 1);
        Due.is("for any address", house.lookup(0, 0), 5);
        Due.is("whatever the address was", house.route(77, 0, 6, 9), 1);
        Due.is("in its place", house.lookup(-1, 0), 6);
    }

    static void thirtyTwoBitsAreTaken() {
        RouteHouse house = new RouteHouse();
        Due.is("routes", house.route(ADDRESS, 32, 5, 9), 1);
        Due.is("the last bit counts", house.route(ADDRESS ^ 1, 32, 6, 9), 2);
        Due.is("the one", house.lookup(ADDRESS, 0), 5);
        Due.is("the other", house.lookup(ADDRESS ^ 1, 0), 6);
    }

    static void bitsBelowZeroAreRefused() {
        Busy.badNumber("bits -1", house -> house.route(ADDRESS, -1, 0, 0));
        Busy.badNumber("the lowest number", house -> house.route(ADDRESS, Integer.MIN_VALUE, 0, 0));
    }

    static void bitsAbove32AreRefused() {
        Busy.badNumber("bits 33", house -> house.route(ADDRESS, 33, 0, 0));
        Busy.badNumber("the highest number", house -> house.route(ADDRESS, Integer.MAX_VALUE, 0, 0));
    }

    static void portBelowZeroIsRefused() {
        Busy.noSuch("port -1", house -> house.route(ADDRESS, 3, -1, 0));
        Busy.noSuch("port -1 for a route that is there", house -> house.route(Pack.ip(10, 9, 1, 0), 24, -1, 0));
    }

    static void portAboveSevenIsRefused() {
        Busy.noSuch("port 8", house -> house.route(ADDRESS, 3, 8, 0));
        Busy.noSuch("port 8 for a route that is there", house -> house.route(Pack.ip(10, 9, 1, 0), 24, 8, 0));
    }

    static void bitsAreLookedAtBeforePort() {
        Busy.badNumber("bits 33 and port 8", house -> house.route(ADDRESS, 33, 8, 0));
        Busy.badNumber("bits -1 and port -1", house -> house.route(ADDRESS, -1, -1, 0));
    }

    static void portsZeroToSevenAreTaken() {
        RouteHouse house = new RouteHouse();
        for (int port = 0; port < 8; port++) {
            house.route(port << 24, 8, port, 0);
            Due.is("port", house.lookup(port << 24, 0), port);
        }
    }

    static void portThatIsDownIsTaken() {
        RouteHouse house = new RouteHouse();
        house.up(3, false);
        Due.is("routes", house.route(ADDRESS, 8, 3, 0), 1);
        Due.is("port", house.lookup(ADDRESS, 0), 3);
    }

    static void bitsBehindTheBeginningAreNotLookedAt() {
        for (int bits = 0; bits < 32; bits++) {
            RouteHouse house = new RouteHouse();
            house.route(ADDRESS, bits, 1, 5);
            int other = ADDRESS ^ (bits == 0 ? -1 : (1 << 32 - bits) - 1);
            Due.is("of " + bits + ": the same beginning", house.route(other, bits, 2, 6), 1);
            Due.is("of " + bits + ": in its place", house.lookup(ADDRESS, 0), 2);
        }
    }

    static void lastBitOfTheBeginningIsLookedAt() {
        for (int bits = 1; bits <= 32; bits++) {
            RouteHouse house = new RouteHouse();
            house.route(ADDRESS, bits, 1, 5);
            int other = ADDRESS ^ 1 << 32 - bits;
            Due.is("of " + bits + ": another beginning", house.route(other, bits, 2, 6), 2);
            Due.is("of " + bits + ": the one", house.lookup(ADDRESS, 0), 1);
            Due.is("of " + bits + ": the other", house.lookup(other, 0), 2);
        }
    }

    static void sameBeginningTakesThePlaceOfTheOneThere() {
        RouteHouse house = new RouteHouse();
        house.route(ADDRESS, 16, 1, 5);
        Due.is("routes", house.route(ADDRESS, 16, 2, 6), 1);
        Due.is("port", house.lookup(ADDRESS, 0), 2);
        Due.is("next", house.lookup(ADDRESS, 2), 6);
        Due.is("about", house.about(0), 1);
    }

    static void sameAddressWithOtherBitsIsAnotherRoute() {
        RouteHouse house = new RouteHouse();
        for (int bits = 0; bits <= 32; bits++) {
            Due.is("bits " + bits, house.route(0, bits, 1, 5), bits + 1);
        }
    }

    static void routes399And400AreTaken() {
        RouteHouse house = new RouteHouse();
        for (int i = 1; i <= 400; i++) {
            Due.is("routes", house.route(i << 8, 24, i % 8, i), i);
        }
        for (int i = 1; i <= 400; i += 21) {
            Due.is("route " + i, house.lookup(i << 8 | 255, 2), i);
        }
        Due.is("the last one", house.lookup(400 << 8, 2), 400);
    }

    static void route401IsRefused() {
        RouteHouse house = full();
        Due.refused("one more", UnsupportedOperationException.class, () -> house.route(400 << 8, 24, 0, 0));
        Due.refused("with other bits", UnsupportedOperationException.class, () -> house.route(0, 23, 0, 0));
        Due.is("routes", house.about(0), 400);
        Due.is("it is not there", house.lookup(400 << 8, 0), RouteHouse.NONE);
        for (int i = 0; i < 400; i += 19) {
            Due.is("the others stay", house.lookup(i << 8, 2), i);
        }
    }

    static void oneOf400IsTakenAnew() {
        RouteHouse house = full();
        for (int i : new int[] {0, 200, 399}) {
            Due.is("routes", house.route(i << 8 | 7, 24, 1, -3), 400);
            Due.is("next", house.lookup(i << 8, 2), -3);
        }
    }

    static void wrongNumbersAreLookedAtBefore401() {
        RouteHouse house = full();
        Due.badNumber("bits", () -> house.route(400 << 8, 33, 0, 0));
        Due.noSuch("port", () -> house.route(400 << 8, 24, 8, 0));
        Due.badNumber("bits and port", () -> house.route(400 << 8, -1, -1, 0));
    }

    static void roomIsThereAgainWhenOneOf400Goes() {
        RouteHouse house = full();
        house.unroute(0, 24);
        Due.is("routes", house.route(400 << 8, 24, 0, 12), 400);
        Due.is("it is there", house.lookup(400 << 8, 2), 12);
        Due.refused("one more", UnsupportedOperationException.class, () -> house.route(401 << 8, 24, 0, 0));
    }

    static void nextAddressMayBeAnyNumber() {
        for (int next : new int[] {0, 1, -1, Integer.MIN_VALUE, Integer.MAX_VALUE}) {
            RouteHouse house = new RouteHouse();
            house.route(ADDRESS, 8, 1, next);
            Due.is("next", house.lookup(ADDRESS, 2), next);
        }
    }
}
