/** end: the tape keeps its first n bytes. */
public final class Promise08EndTest {
    public static void main(String[] args) {
        Due.cases(Promise08EndTest.class);
    }

    static void emptyTapeEndsAtZero() {
        RouteHouse house = new RouteHouse();
        house.end(0);
        Due.is("bytes", house.about(10), 0);
    }

    static void emptyTapeHasNotOneByte() {
        RouteHouse house = new RouteHouse();
        Due.badNumber("one", () -> house.end(1));
        Due.is("bytes", house.about(10), 0);
    }

    static void keepsNothing() {
        RouteHouse house = new RouteHouse();
        house.feed(1, 2, 3, 4, 5);
        house.end(0);
        Due.is("bytes", house.about(10), 0);
    }

    static void keepsAll() {
        RouteHouse house = new RouteHouse();
        house.feed(1, 2, 3, 4, 5);
        house.end(20);
        Due.is("bytes", house.about(10), 20);
    }

    static void keepsAllOf2000() {
        Bench bench = new Bench();
        bench.lay(new byte[2000]);
        bench.house.end(2000);
        Due.is("bytes", bench.house.about(10), 2000);
        Due.badNumber("2001", () -> bench.house.end(2001));
        bench.house.end(1999);
        Due.is("but one", bench.house.about(10), 1999);
    }

    static void keepsEachNumberOfBytes() {
        RouteHouse house = new RouteHouse();
        for (int n = 0; n <= 20; n++) {
            house.end(0);
            house.feed(1, 2, 3, 4, 5);
            house.end(n);
            Due.is("bytes", house.about(10), n);
        }
    }

    static void moreThanItHasIsRefused() {
        Busy.badNumber("one more", house -> house.end(28));
        Busy.badNumber("the highest number", house -> house.end(Integer.MAX_VALUE));
    }

    static void belowZeroIsRefused() {
        Busy.badNumber("-1", house -> house.end(-1));
        Busy.badNumber("the lowest number", house -> house.end(Integer.MIN_VALUE));
    }

    static void whatIsCutOffDoesNotComeBack() {
        RouteHouse house = new RouteHouse();
        house.feed(1, 2, 3, 4, 5);
        house.end(19);
        Due.badNumber("what it had", () -> house.end(20));
        Due.is("bytes", house.about(10), 19);
        Due.is("too short a packet", house.receive(0), 1);
    }

    static void receivedTapeHasNoBytes() {
        Bench bench = new Bench();
        bench.take(Pack.to(Bench.HERE), 0);
        Due.badNumber("one", () -> bench.house.end(1));
    }

    static void firstBytesStayAsTheyAre() {
        Bench bench = new Bench();
        bench.lay(Pack.to(Bench.HERE).data(Pack.count(1, 5)).bytes());
        bench.house.feed(-1, -1, -1, -1, -1);
        bench.house.end(25);
        Due.is("received", bench.house.receive(0), 13);
        Due.is("data", bench.delivered(), Pack.count(1, 5));
    }
}
