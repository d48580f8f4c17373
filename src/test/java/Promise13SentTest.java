/** sent: length, port and next address of a packet of the out. */
public final class Promise13SentTest {
    public static void main(String[] args) {
        Bench bench = new Bench();
        RouteHouse house = bench.house;
        Due.noSuch("nothing was sent", () -> house.sent(0, 0));
        bench.take(Pack.to(Bench.NARROW).data(Pack.count(0, 100)), 0);
        Due.is("length of the first", house.sent(0, 0), 100);
        Due.is("length of the second", house.sent(1, 0), 40);
        for (int i = 0; i < 2; i++) {
            Due.is("port", house.sent(i, 1), 1);
            Due.is("next address", house.sent(i, 2), Bench.GATE);
        }
        Due.noSuch("packet 2", () -> house.sent(2, 0));
        Due.noSuch("packet -1", () -> house.sent(-1, 0));
        Due.noSuch("packet before what", () -> house.sent(2, 3));
        Due.badNumber("what 3", () -> house.sent(1, 3));
        Due.badNumber("what -1", () -> house.sent(1, -1));
        bench.take(Pack.to(Bench.WIDE), 0);
        Due.is("the packet's own destination", house.sent(0, 2), Bench.WIDE);
        Due.noSuch("what was sent before", () -> house.sent(1, 0));
        bench.take(Pack.to(Bench.LOST), 3);
        Due.is("an error's port", house.sent(0, 1), 3);
        Due.is("an error's next address", house.sent(0, 2), 0);
        house.receive(0);
        Due.noSuch("empty again", () -> house.sent(0, 0));
        Due.close();
    }
}
