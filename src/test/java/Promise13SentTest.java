/** sent: of the out, packet i's length, port and next address. */
public final class Promise13SentTest {
    public static void main(String[] args) {
        Due.cases(Promise13SentTest.class);
    }

    private static void is(RouteHouse house, int i, int length, int port, int next) {
        Due.is("length", house.sent(i, 0), length);
        Due.is("port", house.sent(i, 1), port);
        Due.is("next address", house.sent(i, 2), next);
    }

    static void tellsOfEachPiece() {
        Bench bench = new Bench();
        bench.take(Pack.to(Bench.NARROW).data(Pack.count(0, 200)), 0);
        is(bench.house, 0, 100, 1, Bench.GATE);
        is(bench.house, 1, 100, 1, Bench.GATE);
        is(bench.house, 2, 60, 1, Bench.GATE);
    }

    static void tellsOfTheLeastPacket() {
        Bench bench = new Bench();
        bench.take(Pack.to(Bench.WIDE), 0);
        is(bench.house, 0, 20, 2, Bench.WIDE);
    }

    static void tellsOfTheLongestPacket() {
        Bench bench = new Bench();
        bench.house.route(Bench.LOST, 32, 7, -1);
        bench.take(Pack.to(Bench.LOST).data(Pack.count(0, 1480)), 0);
        is(bench.house, 0, 1500, 7, -1);
    }

    static void nextAddressIsTheDestinationIfTheRouteHasZero() {
        Bench bench = new Bench();
        bench.house.route(Bench.LOST, 32, 3, 0);
        bench.take(Pack.to(Bench.LOST), 0);
        is(bench.house, 0, 20, 3, Bench.LOST);
    }

    static void nextAddressIsTheRoutesThatWasThereWhenItWasSent() {
        Bench bench = new Bench();
        bench.take(Pack.to(Bench.WIDE), 0);
        bench.house.route(Bench.WIDE, 24, 5, 99);
        is(bench.house, 0, 20, 2, Bench.WIDE);
    }

    static void nextAddressOfAnErrorIsZero() {
        Bench bench = new Bench();
        bench.take(Pack.to(Bench.LOST), 3);
        is(bench.house, 0, 48, 3, 0);
    }

    static void nextAddressOfAnAnswerIsZero() {
        Bench bench = new Bench();
        bench.take(Pack.to(Bench.HERE).protocol(1).data(Pack.control(8, 0, Pack.count(0, 96))), 1);
        is(bench.house, 0, 100, 1, 0);
        is(bench.house, 1, 40, 1, 0);
    }

    static void emptyOutHasNoPacket() {
        Bench bench = new Bench();
        Due.noSuch("packet 0", () -> bench.house.sent(0, 0));
        bench.take(Pack.to(Bench.WIDE), 0);
        bench.house.receive(0);
        Due.noSuch("packet 0 of a receive that sent nothing", () -> bench.house.sent(0, 0));
        bench.take(Pack.to(Bench.WIDE), 0);
        bench.house.pass(0);
        Due.noSuch("packet 0 of a pass that sent nothing", () -> bench.house.sent(0, 0));
    }

    static void packetBelowZeroIsRefused() {
        Busy.noSuch("packet -1", house -> house.sent(-1, 0));
        Busy.noSuch("the lowest number", house -> house.sent(Integer.MIN_VALUE, 0));
    }

    static void packetBehindTheLastIsRefused() {
        Busy.noSuch("packet 1 of one", house -> house.sent(1, 0));
        Busy.noSuch("the highest number", house -> house.sent(Integer.MAX_VALUE, 0));
    }

    static void packetOfAnEarlierOutIsRefused() {
        Bench bench = new Bench();
        bench.take(Pack.to(Bench.NARROW).data(Pack.count(0, 200)), 0);
        bench.take(Pack.to(Bench.WIDE), 0);
        Due.noSuch("packet 1", () -> bench.house.sent(1, 0));
        Due.noSuch("packet 2", () -> bench.house.sent(2, 0));
    }

    static void whatBelowZeroIsRefused() {
        Busy.badNumber("what -1", house -> house.sent(0, -1));
        Busy.badNumber("the lowest number", house -> house.sent(0, Integer.MIN_VALUE));
    }

    static void whatAboveTwoIsRefused() {
        Busy.badNumber("what 3", house -> house.sent(0, 3));
        Busy.badNumber("the highest number", house -> house.sent(0, Integer.MAX_VALUE));
    }

    static void packetIsLookedAtBeforeWhat() {
        Busy.noSuch("packet 1 and what 3", house -> house.sent(1, 3));
        Busy.noSuch("packet -1 and what -1", house -> house.sent(-1, -1));
    }
}
