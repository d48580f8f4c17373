/** end: the tape keeps its first bytes. */
public final class Promise08EndTest {
    public static void main(String[] args) {
        Bench bench = new Bench();
        RouteHouse house = bench.house;
        house.end(0);
        house.feed(1, 2, 3, 4, 5);
        Due.badNumber("more than it has", () -> house.end(21));
        Due.badNumber("below 0", () -> house.end(-1));
        Due.is("it stays", house.about(10), 20);
        house.end(20);
        Due.is("all", house.about(10), 20);
        house.end(19);
        Due.is("less", house.about(10), 19);
        Due.badNumber("what it had before", () -> house.end(20));
        Due.is("too short a packet", house.receive(0), 1);
        Due.badNumber("empty then", () -> house.end(1));
        house.end(0);
        bench.lay(Pack.to(Bench.HERE).data(Pack.count(1, 5)).bytes());
        Due.is("the first bytes stay", house.receive(0), 13);
        Due.is("data", bench.delivered(), Pack.count(1, 5));
        Due.close();
    }
}
