/** unroute: the route for just these bits goes. */
public final class Promise05UnrouteTest {
    public static void main(String[] args) {
        RouteHouse house = new RouteHouse();
        int address = Pack.ip(10, 9, 9, 9);
        for (int bits = 0; bits <= 32; bits++) {
            house.route(address, bits, bits % 8, bits);
        }
        Due.is("other bits of an address", house.unroute(Pack.ip(10, 9, 9, 8), 32), false);
        Due.is("bits behind the beginning are not looked at", house.unroute(Pack.ip(10, 9, 9, 200), 24), true);
        Due.is("not twice", house.unroute(address, 24), false);
        Due.is("how many", house.about(0), 32);
        Due.is("others stay", house.lookup(address, 1), 32);
        Due.is("the longest goes", house.unroute(address, 32), true);
        Due.is("then the next", house.lookup(address, 1), 31);
        Due.is("the shortest goes", house.unroute(-1, 0), true);
        Due.is("nothing for others", house.lookup(-1, 0), RouteHouse.NONE);
        for (int bits = 31; bits > 0; bits--) {
            Due.is("goes: " + bits, house.unroute(address, bits), bits != 24);
        }
        Due.is("none left", house.about(0), 0);
        Due.badNumber("bits -1", () -> house.unroute(1, -1));
        Due.badNumber("bits 33", () -> house.unroute(1, 33));
        Due.close();
    }
}
