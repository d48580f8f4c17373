/** port: a port's address and MTU. */
public final class Promise02PortTest {
    private static final int ADDRESS = Pack.ip(200, 1, 2, 3);

    public static void main(String[] args) {
        Due.cases(Promise02PortTest.class);
    }

    private static void mtuIs(int mtu) {
        Bench bench = new Bench();
        bench.house.port(2, 0, mtu);
        Due.is("as long as it", bench.take(Pack.to(Bench.WIDE).data(Pack.count(0, mtu - 20)), 0), 25);
        Due.is("longer by one", bench.take(Pack.to(Bench.WIDE).data(Pack.count(0, mtu - 19)), 0), 26);
    }

    static void mtu100IsTaken() {
        mtuIs(100);
    }

    static void mtu101IsTaken() {
        mtuIs(101);
    }

    static void mtu1499IsTaken() {
        mtuIs(1499);
    }

    static void mtu1500IsTaken() {
        mtuIs(1500);
    }

    static void mtu99IsRefused() {
        Busy.badNumber("mtu 99", house -> house.port(0, ADDRESS, 99));
    }

    static void mtu1501IsRefused() {
        Busy.badNumber("mtu 1501", house -> house.port(0, ADDRESS, 1501));
    }

    static void mtuFarOutsideIsRefused() {
        for (int mtu : new int[] {0, -1, -100, 65536 + 100, Integer.MIN_VALUE, Integer.MAX_VALUE}) {
            Busy.badNumber("mtu " + mtu, house -> house.port(0, ADDRESS, mtu));
        }
    }

    static void portBelowZeroIsRefused() {
        Busy.noSuch("port -1", house -> house.port(-1, ADDRESS, 1500));
        Busy.noSuch("the lowest number", house -> house.port(Integer.MIN_VALUE, ADDRESS, 1500));
    }

    static void portAboveSevenIsRefused() {
        Busy.noSuch("port 8", house -> house.port(8, ADDRESS, 1500));
        Busy.noSuch("the highest number", house -> house.port(Integer.MAX_VALUE, ADDRESS, 1500));
    }

    static void portIsLookedAtBeforeMtu() {
        Busy.noSuch("port 8 and mtu 99", house -> house.port(8, ADDRESS, 99));
        Busy.noSuch("port -1 and mtu 1501", house -> house.port(-1, ADDRESS, 1501));
    }

    static void portsZeroToSevenAreTaken() {
        for (int port = 0; port < 8; port++) {
            Bench bench = Bench.bare();
            bench.house.port(port, ADDRESS, 100 + port);
            Due.is("own address", bench.take(Pack.to(ADDRESS), 0), 13);
            bench.house.route(0, 0, port, 0);
            Due.is("mtu", bench.take(Pack.to(Bench.WIDE).data(Pack.count(0, 80 + port)), 0), 25);
            Due.is("mtu and one", bench.take(Pack.to(Bench.WIDE).data(Pack.count(0, 81 + port)), 0), 26);
        }
    }

    static void addressIsOwnFromThenOn() {
        Bench bench = new Bench();
        Due.is("not yet", bench.take(Pack.to(ADDRESS), 0), 22);
        bench.house.port(7, ADDRESS, 100);
        Due.is("then", bench.take(Pack.to(ADDRESS), 0), 13);
    }

    static void addressBeforeIsOwnNoMore() {
        Bench bench = new Bench();
        bench.house.port(7, ADDRESS, 100);
        bench.house.port(7, ADDRESS + 1, 100);
        Due.is("the one before", bench.take(Pack.to(ADDRESS), 0), 22);
        Due.is("the one now", bench.take(Pack.to(ADDRESS + 1), 0), 13);
    }

    static void addressOfTwoPortsStaysOwnWhileOneHasIt() {
        Bench bench = new Bench();
        bench.house.port(6, ADDRESS, 100);
        bench.house.port(7, ADDRESS, 100);
        bench.house.port(6, 0, 100);
        Due.is("one has it", bench.take(Pack.to(ADDRESS), 0), 13);
        bench.house.port(7, 0, 100);
        Due.is("none has it", bench.take(Pack.to(ADDRESS), 0), 22);
    }

    static void addressZeroIsNobodys() {
        Bench bench = new Bench();
        bench.house.port(5, 0, 100);
        Due.is("to 0", bench.take(Pack.to(0), 5), 20);
    }

    static void addressWithTheHighestBitIsTaken() {
        Bench bench = new Bench();
        bench.house.port(0, Integer.MIN_VALUE, 100);
        Due.is("128.0.0.0", bench.take(Pack.to(Integer.MIN_VALUE), 0), 13);
        bench.house.port(0, -1, 100);
        Due.is("255.255.255.255", bench.take(Pack.to(-1), 0), 13);
    }

    static void addressIsTheSourceOfErrors() {
        Bench bench = new Bench();
        bench.house.port(0, ADDRESS, 100);
        Pack lost = Pack.to(Bench.LOST);
        bench.take(lost, 0);
        bench.outIs("an error", Pack.error(0, ADDRESS, lost.bytes(), 3, 0, 0), 0, 0);
    }

    static void otherPortsStay() {
        Bench bench = new Bench();
        bench.house.port(0, ADDRESS, 100);
        Due.is("address of port 1", bench.take(Pack.to(Bench.THERE), 0), 13);
        Due.is("mtu of port 2", bench.take(Pack.to(Bench.WIDE).data(Pack.count(0, 556)), 0), 25);
    }

    static void doesNotSetAPortUpOrDown() {
        RouteHouse house = new RouteHouse();
        house.port(3, ADDRESS, 100);
        Due.is("up before", house.up(3, false), true);
        house.port(3, ADDRESS, 200);
        Due.is("down before", house.up(3, true), false);
    }

    static void leavesTheOutAndTheTape() {
        Bench bench = new Bench();
        bench.take(Pack.to(Bench.WIDE), 0);
        bench.lay(Pack.to(Bench.HERE).bytes());
        bench.house.port(2, ADDRESS, 100);
        bench.outIs("the out", Pack.to(Bench.WIDE).hops(63).bytes(), 2, Bench.WIDE);
        Due.is("the tape", bench.house.receive(0), 13);
    }
}
