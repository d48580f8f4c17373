/** lookup: the route with the longest beginning that an address has. */
public final class Promise06LookupTest {
    public static void main(String[] args) {
        RouteHouse house = new RouteHouse();
        Due.is("port without a route", house.lookup(5, 0), RouteHouse.NONE);
        Due.is("bits without a route", house.lookup(5, 1), RouteHouse.NONE);
        Due.is("next without a route", house.lookup(5, 2), 0);
        house.route(Pack.ip(192, 168, 0, 0), 16, 1, 11);
        house.route(Pack.ip(192, 168, 7, 7), 32, 3, 13);
        house.route(Pack.ip(192, 168, 7, 0), 24, 2, 12);
        house.route(Pack.ip(128, 0, 0, 0), 1, 4, 14);
        answers(house, Pack.ip(192, 168, 7, 7), 3, 32, 13);
        answers(house, Pack.ip(192, 168, 7, 8), 2, 24, 12);
        answers(house, Pack.ip(192, 168, 8, 7), 1, 16, 11);
        answers(house, Pack.ip(192, 169, 7, 7), 4, 1, 14);
        answers(house, Pack.ip(127, 255, 255, 255), RouteHouse.NONE, RouteHouse.NONE, 0);
        house.route(0, 0, 5, -15);
        answers(house, Pack.ip(127, 255, 255, 255), 5, 0, -15);
        answers(house, Pack.ip(255, 255, 255, 255), 4, 1, 14);
        Due.badNumber("what 3", () -> house.lookup(5, 3));
        Due.badNumber("what -1", () -> house.lookup(5, -1));
        Due.close();
    }

    private static void answers(RouteHouse house, int address, int port, int bits, int next) {
        Due.is("port of " + address, house.lookup(address, 0), port);
        Due.is("bits of " + address, house.lookup(address, 1), bits);
        Due.is("next of " + address, house.lookup(address, 2), next);
    }
}
