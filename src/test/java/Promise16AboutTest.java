/** about: the numbers of the whole object. */
public final class Promise16AboutTest {
    public static void main(String[] args) {
        Bench bench = new Bench();
        RouteHouse house = bench.house;
        is(house, "at first", 2, 0, 0, 6, 0, 0, 0, 0, 0, 0, 0);
        int source = Pack.ip(200, 9, 9, 9);
        bench.take(Pack.to(Bench.HERE).from(source).data(1, 2, 3), 0);
        is(house, "delivered", 2, 0, 0, 6, 0, 0, 1, source, Bench.HERE, 3, 0);
        bench.take(Pack.to(Bench.THERE).data(1, 2), 0);
        is(house, "delivered again", 2, 0, 0, 6, 0, 0, 2, Bench.PEER, Bench.THERE, 2, 0);
        bench.take(Pack.to(Bench.HERE).cut(Pack.MORE, 0).data(Pack.count(0, 8)), 0);
        bench.take(Pack.to(Bench.HERE).cut(Pack.MORE, 1).data(Pack.count(0, 8)), 0);
        is(house, "waiting", 2, 0, 1, 6, 0, 0, 2, Bench.PEER, Bench.THERE, 2, 0);
        bench.take(Pack.to(Bench.LOST), 0);
        is(house, "error", 2, 1, 1, 5, 1, 0, 2, Bench.PEER, Bench.THERE, 2, 0);
        bench.take(Pack.to(Bench.HERE).protocol(1).data(Pack.control(8, 0, Pack.count(1, 300))), 1);
        is(house, "answer in pieces", 2, 4, 1, 5, 2, 0, 2, Bench.PEER, Bench.THERE, 2, 0);
        house.pass(12);
        house.feed(1, 2, 3, 4, 5);
        house.route(0, 0, 0, 0);
        is(house, "time, tape, route", 3, 0, 1, 6, 2, 12, 2, Bench.PEER, Bench.THERE, 2, 20);
        house.pass(30);
        is(house, "overdue", 3, 1, 0, 6, 3, 42, 2, Bench.PEER, Bench.THERE, 2, 20);
        Due.badNumber("what -1", () -> house.about(-1));
        Due.badNumber("what 11", () -> house.about(11));
        Due.close();
    }

    private static void is(RouteHouse house, String when, int... numbers) {
        for (int what = 0; what < numbers.length; what++) {
            Due.is(when + ": about(" + what + ")", house.about(what), numbers[what]);
        }
    }
}
