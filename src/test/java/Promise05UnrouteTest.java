/** unroute: the route for just these bits goes: whether there was one. */
public final class Promise05UnrouteTest {
    private static final int ADDRESS = Pack.ip(10, 9, 9, 9);

    public static void main(String[] args) {
        Due.cases(Promise05UnrouteTest.class);
    }

    /** A route for each beginning of one address. */
    private static RouteHouse nested() {
        RouteHouse house = new RouteHouse();
        for (int bits = 0; bits <= 32; bits++) {
            house.route(ADDRESS, bits, bits % 8, bits);
        }
        return house;
    }

    static void withoutRoutesThereWasNone() {
        RouteHouse house = new RouteHouse();
        for (int bits = 0; bits <= 32; bits++) {
            Due.is("bits " + bits, house.unroute(ADDRESS, bits), false);
        }
        Due.is("routes", house.about(0), 0);
    }

    static void goesOnceOnly() {
        RouteHouse house = new RouteHouse();
        house.route(ADDRESS, 24, 1, 1);
        Due.is("first", house.unroute(ADDRESS, 24), true);
        Due.is("again", house.unroute(ADDRESS, 24), false);
        Due.is("routes", house.about(0), 0);
        Due.is("not looked up any more", house.lookup(ADDRESS, 0), RouteHouse.NONE);
    }

    static void justTheseBitsGo() {
        for (int bits = 0; bits <= 32; bits++) {
            RouteHouse house = nested();
            Due.is("bits " + bits, house.unroute(ADDRESS, bits), true);
            Due.is("routes", house.about(0), 32);
            for (int other = 32; other >= 0; other--) {
                Due.is("the longest left", house.lookup(ADDRESS, 1), other == bits ? bits - 1 : other);
                Due.is("bits " + other, house.unroute(ADDRESS, other), other != bits);
            }
        }
    }

    static void longerAndShorterOnesDoNotCount() {
        RouteHouse house = new RouteHouse();
        house.route(ADDRESS, 16, 1, 1);
        Due.is("longer", house.unroute(ADDRESS, 17), false);
        Due.is("shorter", house.unroute(ADDRESS, 15), false);
        Due.is("none", house.unroute(ADDRESS, 0), false);
        Due.is("it stays", house.lookup(ADDRESS, 1), 16);
    }

    static void bitsBehindTheBeginningAreNotLookedAt() {
        RouteHouse house = nested();
        Due.is("24 bits", house.unroute(ADDRESS ^ 255, 24), true);
        Due.is("31 bits", house.unroute(ADDRESS ^ 1, 31), true);
        Due.is("0 bits", house.unroute(~ADDRESS, 0), true);
    }

    static void lastBitOfTheBeginningIsLookedAt() {
        RouteHouse house = nested();
        for (int bits = 1; bits <= 32; bits++) {
            Due.is("bits " + bits, house.unroute(ADDRESS ^ 1 << 32 - bits, bits), false);
        }
        Due.is("routes", house.about(0), 33);
    }

    static void bitsBelowZeroAreRefused() {
        Busy.badNumber("bits -1", house -> house.unroute(Pack.ip(10, 9, 1, 0), -1));
        Busy.badNumber("the lowest number", house -> house.unroute(Pack.ip(10, 9, 1, 0), Integer.MIN_VALUE));
    }

    static void bitsAbove32AreRefused() {
        Busy.badNumber("bits 33", house -> house.unroute(Pack.ip(10, 9, 1, 0), 33));
        Busy.badNumber("the highest number", house -> house.unroute(Pack.ip(10, 9, 1, 0), Integer.MAX_VALUE));
        Busy.badNumber("24 and 32", house -> house.unroute(Pack.ip(10, 9, 1, 0), 56));
    }

    static void othersStayWhicheverGoes() {
        for (int gone = 0; gone < 5; gone++) {
            RouteHouse house = new RouteHouse();
            for (int i = 0; i < 5; i++) {
                house.route(i << 24, 8, i, i + 50);
            }
            Due.is("goes", house.unroute(gone << 24, 8), true);
            for (int i = 0; i < 5; i++) {
                Due.is("port", house.lookup(i << 24, 0), i == gone ? RouteHouse.NONE : i);
                Due.is("bits", house.lookup(i << 24, 1), i == gone ? RouteHouse.NONE : 8);
                Due.is("next", house.lookup(i << 24, 2), i == gone ? 0 : i + 50);
            }
        }
    }

    static void comesBackAsANewOne() {
        RouteHouse house = new RouteHouse();
        house.route(ADDRESS, 24, 1, 1);
        house.unroute(ADDRESS, 24);
        Due.is("routes", house.route(ADDRESS, 24, 2, 3), 1);
        Due.is("port", house.lookup(ADDRESS, 0), 2);
        Due.is("next", house.lookup(ADDRESS, 2), 3);
    }
}
