/** about: the numbers of the whole object. */
public final class Promise16AboutTest {
    public static void main(String[] args) {
        Due.cases(Promise16AboutTest.class);
    }

    private static void is(RouteHouse house, String when, int... numbers) {
        for (int what = 0; what < numbers.length; what++) {
            Due.is(when + ": about(" + what + ")", house.about(what), numbers[what]);
        }
    }

    static void whatBelowZeroIsRefused() {
        Busy.badNumber("what -1", house -> house.about(-1));
        Busy.badNumber("the lowest number", house -> house.about(Integer.MIN_VALUE));
    }

    static void whatAboveTenIsRefused() {
        Busy.badNumber("what 11", house -> house.about(11));
        Busy.badNumber("the highest number", house -> house.about(Integer.MAX_VALUE));
    }

    static void allOfThemInOneRun() {
        Bench bench = new Bench();
        RouteHouse house = bench.house;
        is(house, "at first", 2, 0, 0, 6, 0, 0, 0, 0, 0, 0, 0);
        int source = Pack.ip(200, 9, 9, 9);
        bench.take(Pack.to(Bench.HERE).from(source).data(1, 2, 3), 0);
        is(house, "delivered", 2, 0, 0, 6, 0, 0, 1, source, Bench.HERE, 3, 0);
        bench.take(Pack.to(Bench.THERE).data(1, 2), 0);
        is(house, "delivered again", 2, 0, 0, 6, 0, 0, 2, Bench.PEER, Bench.THERE, 2, 0);
        bench.take(Pack.to(Bench.HERE).cut(Pack.MORE, 0).data(Pack.count(0, 8)), 0);
        bench.take(Pack.to(Bench.HERE).cut(Pack.MORE, 1).data(Pack.count(0, 8)), 0);
        is(house, "waiting", 2, 0, 1, 6, 0, 0, 2, Bench.PEER, Bench.THERE, 2, 0);
        bench.take(Pack.to(Bench.LOST), 0);
        is(house, "error", 2, 1, 1, 5, 1, 0, 2, Bench.PEER, Bench.THERE, 2, 0);
        bench.take(Pack.to(Bench.HERE).protocol(1).data(Pack.control(8, 0, Pack.count(1, 300))), 1);
        is(house, "answer in pieces", 2, 4, 1, 5, 2, 0, 2, Bench.PEER, Bench.THERE, 2, 0);
        house.pass(12);
        house.feed(1, 2, 3, 4, 5);
        house.route(0, 0, 0, 0);
        is(house, "time, tape, route", 3, 0, 1, 6, 2, 12, 2, Bench.PEER, Bench.THERE, 2, 20);
        house.pass(30);
        is(house, "overdue", 3, 1, 0, 6, 3, 42, 2, Bench.PEER, Bench.THERE, 2, 20);
    }

    static void waitingCountsPacketsNotPieces() {
        Bench bench = new Bench();
        for (int offset = 1; offset <= 3; offset++) {
            bench.take(Pack.to(Bench.HERE).cut(Pack.MORE, offset).data(Pack.count(0, 8)), 0);
            Due.is("waiting", bench.house.about(2), 1);
        }
    }

    static void deliveredCountsEachAndTellsTheLatest() {
        Bench bench = new Bench();
        for (int i = 1; i <= 20; i++) {
            bench.take(Pack.to(i % 2 == 0 ? Bench.HERE : Bench.THERE).from(i).data(Pack.count(0, i)), 0);
            Due.is("delivered", bench.house.about(6), i);
            Due.is("source", bench.house.about(7), i);
            Due.is("destination", bench.house.about(8), i % 2 == 0 ? Bench.HERE : Bench.THERE);
            Due.is("data", bench.house.about(9), i);
        }
    }

    static void sourceAndDestinationMayHaveTheHighestBit() {
        Bench bench = new Bench();
        bench.house.port(3, -2, 100);
        bench.take(Pack.to(-2).from(Pack.ip(223, 255, 255, 255)), 0);
        Due.is("source", bench.house.about(7), Pack.ip(223, 255, 255, 255));
        Due.is("destination", bench.house.about(8), -2);
    }

    static void deliveredWithoutDataHasZero() {
        Bench bench = new Bench();
        bench.take(Pack.to(Bench.HERE).data(1, 2), 0);
        bench.take(Pack.to(Bench.HERE), 0);
        Due.is("delivered", bench.house.about(6), 2);
        Due.is("data", bench.house.about(9), 0);
    }

    static void tapeCountsItsBytes() {
        Bench bench = new Bench();
        bench.house.feed(1, 2, 3, 4, 5);
        Due.is("fed", bench.house.about(10), 20);
        bench.house.end(13);
        Due.is("ended", bench.house.about(10), 13);
        bench.house.pass(1);
        Due.is("after a pass", bench.house.about(10), 13);
        bench.house.receive(0);
        Due.is("received", bench.house.about(10), 0);
    }

    static void routesCountUpAndDown() {
        RouteHouse house = new RouteHouse();
        house.route(1, 32, 0, 0);
        house.route(2, 32, 0, 0);
        Due.is("two", house.about(0), 2);
        house.unroute(1, 32);
        Due.is("one", house.about(0), 1);
        house.unroute(1, 32);
        Due.is("still one", house.about(0), 1);
    }

    static void asksChangeNothing() {
        Bench bench = new Bench();
        bench.take(Pack.to(Bench.LOST), 0);
        for (int round = 0; round < 2; round++) {
            is(bench.house, "round " + round, 2, 1, 0, 5, 1, 0, 0, 0, 0, 0, 0);
        }
    }
}
