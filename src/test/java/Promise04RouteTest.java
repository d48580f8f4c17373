/** route: a route for the first bits of an address. */
public final class Promise04RouteTest {
    public static void main(String[] args) {
        takesPlaceOfTheOneThere();
        wrongNumbers();
        fourHundred();
        Due.close();
    }

    private static void takesPlaceOfTheOneThere() {
        RouteHouse house = new RouteHouse();
        Due.is("first", house.route(Pack.ip(10, 1, 2, 3), 16, 1, 5), 1);
        Due.is("same beginning", house.route(Pack.ip(10, 1, 200, 7), 16, 2, 6), 1);
        Due.is("its port", house.lookup(Pack.ip(10, 1, 9, 9), 0), 2);
        Due.is("its next", house.lookup(Pack.ip(10, 1, 9, 9), 2), 6);
        Due.is("same address, more bits", house.route(Pack.ip(10, 1, 0, 0), 17, 3, 7), 2);
        Due.is("other address, same bits", house.route(Pack.ip(10, 0, 0, 0), 16, 4, 8), 3);
        Due.is("no bits", house.route(-1, 0, 5, 9), 4);
        Due.is("no bits again", house.route(77, 0, 6, 9), 4);
        Due.is("all bits", house.route(-1, 32, 7, 9), 5);
        Due.is("all bits but one", house.route(-1, 31, 7, 9), 6);
        Due.is("about", house.about(0), 6);
    }

    private static void wrongNumbers() {
        RouteHouse house = new RouteHouse();
        Due.badNumber("bits -1", () -> house.route(1, -1, 0, 0));
        Due.badNumber("bits 33", () -> house.route(1, 33, 0, 0));
        Due.badNumber("bits before port", () -> house.route(1, 33, 8, 0));
        Due.noSuch("port -1", () -> house.route(1, 3, -1, 0));
        Due.noSuch("port 8", () -> house.route(1, 3, 8, 0));
        Due.is("nothing changed", house.about(0), 0);
    }

    private static void fourHundred() {
        RouteHouse house = new RouteHouse();
        for (int i = 0; i < 400; i++) {
            house.route(i << 8, 24, i % 8, i);
        }
        Due.is("routes", house.about(0), 400);
        Due.refused("one more", UnsupportedOperationException.class, () -> house.route(400 << 8, 24, 0, 0));
        Due.badNumber("bits before the number", () -> house.route(400 << 8, 40, 0, 0));
        Due.noSuch("port before the number", () -> house.route(400 << 8, 24, 8, 0));
        Due.is("the 401st is not there", house.lookup(400 << 8, 0), RouteHouse.NONE);
        Due.is("one of them anew", house.route(399 << 8, 24, 1, 3), 400);
        Due.is("its next", house.lookup(399 << 8, 2), 3);
        for (int i = 0; i < 20; i++) {
            Due.is("route " + i, house.lookup(i << 8 | 255, 2), i);
        }
        house.unroute(0, 24);
        Due.is("room again", house.route(400 << 8, 24, 0, 0), 400);
    }
}
