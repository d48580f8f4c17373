/** pass: time goes on, tokens come, and what has waited long enough goes. */
public final class Promise12PassTest {
    public static void main(String[] args) {
        numbers();
        goesAfterThirty();
        longestHeader();
        sinceItsFirstPiece();
        noErrorAboutThese();
        rowsUsedAgain();
        oldestFirst();
        allAtOnce();
        behindTheToken();
        outIsTheseAlone();
        Due.close();
    }

    private static Pack first(int identity) {
        return Pack.to(Bench.HERE).identity(identity).cut(Pack.MORE, 0).data(Pack.count(identity, 16));
    }

    private static void numbers() {
        RouteHouse house = new RouteHouse();
        Due.badNumber("-1", () -> house.pass(-1));
        Due.badNumber("101", () -> house.pass(101));
        Due.is("time stays", house.about(5), 0);
        Due.is("100", house.pass(100), 0);
        Due.is("0", house.pass(0), 0);
        Due.is("1", house.pass(1), 0);
        Due.is("time", house.about(5), 101);
    }

    private static void goesAfterThirty() {
        Bench bench = new Bench();
        bench.house.pass(7);
        byte[] packet = first(5).options(1, 1, 1, 0).service(3).bytes();
        bench.take(packet, 2);
        Due.is("29 units", bench.house.pass(29), 0);
        Due.is("it waits", bench.house.about(2), 1);
        Due.is("30 units", bench.house.pass(1), 1);
        Due.is("it waits no more", bench.house.about(2), 0);
        bench.outIs("about the piece as it came, at its port", Pack.error(0, 0, packet, 11, 1, 0), 2, 0);
        Due.is("a token", bench.house.about(3), 5);
        Due.is("not again", bench.house.pass(100), 0);
    }

    private static void longestHeader() {
        Bench bench = new Bench();
        int[] options = new int[40];
        java.util.Arrays.fill(options, 1);
        byte[] packet = first(5).options(options).bytes();
        bench.take(packet, 1);
        Due.is("30 units", bench.house.pass(30), 1);
        bench.outIs("96 bytes", Pack.error(0, Bench.THERE, packet, 11, 1, 0), 1, 0);
    }

    private static void sinceItsFirstPiece() {
        Bench bench = new Bench();
        bench.take(Pack.to(Bench.HERE).identity(5).cut(0, 9).data(1), 0);
        bench.house.pass(20);
        bench.take(first(5).hops(3), 0);
        bench.house.pass(9);
        byte[] latest = first(5).data(Pack.count(77, 8)).bytes();
        Due.is("still waiting", bench.take(latest, 1), 10);
        Due.is("30 units since the first", bench.house.pass(1), 1);
        bench.outIs("about the latest with offset 0", Pack.error(0, Bench.THERE, latest, 11, 1, 0), 1, 0);
    }

    private static void silent(String what, Bench bench, Pack pack, int tokens) {
        Due.is(what, bench.take(pack, 1), 10);
        Due.is(what + ": sent", bench.house.pass(30), 0);
        bench.silent(what, tokens);
        Due.is(what + ": gone", bench.house.about(2), 0);
    }

    private static void noErrorAboutThese() {
        silent("no piece with offset 0", new Bench(), Pack.to(Bench.HERE).cut(Pack.MORE, 1).data(Pack.count(0, 8)), 6);
        silent("source 0", new Bench(), first(1).from(0), 6);
        silent("an error", new Bench(), first(1).protocol(1).data(Pack.control(3, 0, new byte[12])), 6);
        Bench down = new Bench();
        down.house.up(1, false);
        silent("its port is down", down, first(1), 6);
        Bench bench = new Bench();
        bench.take(first(1).protocol(1).data(Pack.control(8, 0, new byte[12])), 1);
        Due.is("a request", bench.house.pass(30), 1);
    }

    /** What waited before leaves nothing behind for what waits in its place. */
    private static void rowsUsedAgain() {
        Bench bench = new Bench();
        bench.take(first(1), 1);
        bench.house.pass(30);
        silent("no piece with offset 0, but one before", bench, Pack.to(Bench.HERE).cut(0, 1).data(7), 6);
        bench.take(first(1), 1);
        bench.take(Pack.to(Bench.HERE).identity(1).cut(0, 2).data(Pack.count(0, 9)), 1);
        Due.is("whole", bench.house.about(6), 1);
        Due.is("a piece again", bench.take(first(1).data(Pack.count(0, 8)), 1), 10);
        Due.is("the middle is missing", bench.take(Pack.to(Bench.HERE).identity(1).cut(0, 2).data(1), 1), 10);
        Due.is("it waits", bench.house.about(2), 1);
    }

    private static void allAtOnce() {
        Bench bench = new Bench();
        for (int identity = 1; identity <= 4; identity++) {
            bench.take(first(identity), 0);
        }
        bench.house.pass(29);
        Due.is("four in one unit", bench.house.pass(1), 4);
        Due.is("none waits", bench.house.about(2), 0);
        for (int i = 0; i < 4; i++) {
            bench.outHas("the oldest first", i, Pack.error(i, Bench.HERE, first(i + 1).bytes(), 11, 1, 0), 0, 0);
        }
    }

    private static void oldestFirst() {
        Bench bench = new Bench();
        for (int identity = 1; identity <= 4; identity++) {
            bench.take(first(identity), 0);
            bench.house.pass(identity % 2);
        }
        bench.take(first(1), 1);
        Due.is("all four", bench.house.pass(100), 4);
        int[] ports = {1, 0, 0, 0};
        for (int i = 0; i < 4; i++) {
            int from = ports[i] == 1 ? Bench.THERE : Bench.HERE;
            bench.outHas("in their order", i, Pack.error(i, from, first(i + 1).bytes(), 11, 1, 0), ports[i], 0);
        }
        Due.is("tokens come back", bench.house.about(3), 6);
    }

    private static void behindTheToken() {
        Bench bench = new Bench();
        for (int i = 0; i < 6; i++) {
            bench.take(Pack.to(Bench.LOST), 0);
        }
        bench.take(first(1), 0);
        bench.take(first(2), 0);
        bench.house.pass(20);
        bench.take(Pack.to(Bench.LOST), 0);
        bench.take(Pack.to(Bench.LOST), 0);
        Due.is("no token", bench.house.about(3), 0);
        Due.is("the token of time 30 is there for the oldest", bench.house.pass(10), 1);
        Due.is("both are gone", bench.house.about(2), 0);
        bench.outIs("the oldest", Pack.error(8, Bench.HERE, first(1).bytes(), 11, 1, 0), 0, 0);
    }

    private static void outIsTheseAlone() {
        Bench bench = new Bench();
        RouteHouse house = bench.house;
        bench.take(Pack.to(Bench.WIDE), 0);
        Due.badNumber("wrong number", () -> house.pass(101));
        Due.is("the out stays", house.about(1), 1);
        house.feed(1, 2, 3, 4, 5);
        Due.is("0 units", house.pass(0), 0);
        Due.is("the out is empty", house.about(1), 0);
        Due.is("the tape stays", house.about(10), 20);
    }
}
