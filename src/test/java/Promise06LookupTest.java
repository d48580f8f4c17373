/** lookup: the route with the longest beginning that an address has. */
public final class Promise06LookupTest {
    private static final int ADDRESS = Pack.ip(192, 168, 7, 7);

    public static void main(String[] args) {
        Due.cases(Promise06LookupTest.class);
    }

    private static void answers(RouteHouse house, int address, int port, int bits, int next) {
        Due.is("port of " + address, house.lookup(address, 0), port);
        Due.is("bits of " + address, house.lookup(address, 1), bits);
        Due.is("next of " + address, house.lookup(address, 2), next);
    }

    static void withoutRoutesIsNoneAndNextZero() {
        answers(new RouteHouse(), 5, RouteHouse.NONE, RouteHouse.NONE, 0);
    }

    static void withoutAFittingRouteIsNoneAndNextZero() {
        RouteHouse house = new RouteHouse();
        house.route(ADDRESS, 32, 3, 13);
        house.route(0, 1, 3, 13);
        answers(house, ADDRESS ^ 1, RouteHouse.NONE, RouteHouse.NONE, 0);
    }

    static void longestIsTakenInWhateverOrderTheyCame() {
        int[][] orders = {{0, 1, 2}, {0, 2, 1}, {1, 0, 2}, {1, 2, 0}, {2, 0, 1}, {2, 1, 0}};
        int[] bits = {32, 24, 16};
        for (int[] order : orders) {
            RouteHouse house = new RouteHouse();
            for (int i : order) {
                house.route(ADDRESS, bits[i], i + 1, i + 11);
            }
            answers(house, ADDRESS, 1, 32, 11);
            answers(house, ADDRESS ^ 1, 2, 24, 12);
            answers(house, ADDRESS ^ 256, 3, 16, 13);
        }
    }

    static void eachOf33LengthsIsTold() {
        RouteHouse house = new RouteHouse();
        for (int bits = 0; bits <= 32; bits++) {
            house.route(ADDRESS, bits, bits % 8, bits + 100);
        }
        answers(house, ADDRESS, 0, 32, 132);
        for (int bits = 0; bits < 32; bits++) {
            // It differs from the route's address just behind so many bits.
            answers(house, ADDRESS ^ 1 << 31 - bits, bits % 8, bits, bits + 100);
        }
    }

    static void routeOfZeroBitsIsForAnyAddress() {
        RouteHouse house = new RouteHouse();
        house.route(ADDRESS, 0, 5, -15);
        for (int address : new int[] {0, 1, -1, Integer.MAX_VALUE, Integer.MIN_VALUE}) {
            answers(house, address, 5, 0, -15);
        }
    }

    static void addressesHaveNoSign() {
        RouteHouse house = new RouteHouse();
        house.route(Integer.MIN_VALUE, 1, 4, 14);
        answers(house, Integer.MIN_VALUE, 4, 1, 14);
        answers(house, -1, 4, 1, 14);
        answers(house, Integer.MAX_VALUE, RouteHouse.NONE, RouteHouse.NONE, 0);
        answers(house, 0, RouteHouse.NONE, RouteHouse.NONE, 0);
        house.route(-1, 32, 6, 16);
        answers(house, -1, 6, 32, 16);
        answers(house, -2, 4, 1, 14);
    }

    static void nextZeroIsToldAsItIs() {
        RouteHouse house = new RouteHouse();
        house.route(ADDRESS, 16, 2, 0);
        answers(house, ADDRESS, 2, 16, 0);
    }

    static void portThatIsDownIsToldAllTheSame() {
        RouteHouse house = new RouteHouse();
        house.route(ADDRESS, 16, 2, 9);
        house.route(ADDRESS, 8, 3, 9);
        house.up(2, false);
        answers(house, ADDRESS, 2, 16, 9);
    }

    static void whatBelowZeroIsRefused() {
        Busy.badNumber("what -1", house -> house.lookup(Pack.ip(10, 9, 1, 0), -1));
        Busy.badNumber("the lowest number", house -> house.lookup(Pack.ip(10, 9, 1, 0), Integer.MIN_VALUE));
    }

    static void whatAboveTwoIsRefused() {
        Busy.badNumber("what 3", house -> house.lookup(Pack.ip(10, 9, 1, 0), 3));
        Busy.badNumber("the highest number", house -> house.lookup(Pack.ip(10, 9, 1, 0), Integer.MAX_VALUE));
    }

    static void whatIsRefusedWithoutARouteToo() {
        RouteHouse house = new RouteHouse();
        Due.badNumber("what 3", () -> house.lookup(5, 3));
        Due.badNumber("what -1", () -> house.lookup(5, -1));
    }
}
