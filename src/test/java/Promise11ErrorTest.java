/** receive: when an error goes out, what it is made of, and what it costs. */
public final class Promise11ErrorTest {
    public static void main(String[] args) {
        noneAboutThese();
        quotedData();
        portsAndIdentity();
        tokens();
        Due.close();
    }

    private static void silent(String what, Pack pack) {
        Bench bench = new Bench();
        Due.is(what, bench.take(pack, 0), 22);
        bench.silent(what, 6);
        Due.is(what + ": not counted", bench.house.about(4), 0);
    }

    private static void heard(String what, Pack pack) {
        Bench bench = new Bench();
        Due.is(what, bench.take(pack, 0), 22);
        bench.outIs(what, Pack.error(0, Bench.HERE, pack.bytes(), 3, 0, 0), 0, 0);
        Due.is(what + ": token", bench.house.about(3), 5);
        Due.is(what + ": counted", bench.house.about(4), 1);
    }

    private static Pack lost() {
        return Pack.to(Bench.LOST);
    }

    private static void noneAboutThese() {
        silent("an offset", lost().cut(0, 1).data(Pack.count(0, 8)));
        silent("the highest bit of an offset", lost().cut(0, 4096).data(Pack.count(0, 8)));
        heard("MORE without an offset", lost().cut(Pack.MORE, 0).data(Pack.count(0, 8)));
        silent("source 0", lost().from(0));
        heard("source 0.0.0.1", lost().from(1));
        heard("request", lost().protocol(1).data(8));
        heard("answer", lost().protocol(1).data(0, 1, 2, 3, 4, 5, 6, 7, 8, 9));
        silent("an error", lost().protocol(1).data(3, 0, 0, 0, 0, 0, 0, 0));
        silent("an unknown kind", lost().protocol(1).data(255, 0, 0, 0));
        silent("128 and 8", lost().protocol(1).data(136, 0, 0, 0));
        silent("no data", lost().protocol(1));
        heard("no data of another protocol", lost().protocol(2));
        heard("whatever data of another protocol", lost().protocol(17).data(3, 0, 0, 0));
    }

    private static void quotedData() {
        for (int many = 0; many <= 10; many++) {
            heard(many + " bytes of data", lost().data(Pack.count(90, many)));
        }
        int[] options = new int[40];
        java.util.Arrays.fill(options, 1);
        heard("the longest header", lost().options(options).data(Pack.count(90, 9)));
        Bench bench = new Bench();
        byte[] packet = lost().data(Pack.count(90, 3)).bytes();
        Due.is("more came", bench.take(Pack.join(packet, Pack.count(0, 9)), 0), 22);
        bench.outIs("more came", Pack.error(0, Bench.HERE, packet, 3, 0, 0), 0, 0);
    }

    private static void portsAndIdentity() {
        Bench bench = new Bench();
        byte[] packet = lost().identity(4711).service(9).bytes();
        bench.take(packet, 1);
        bench.outIs("at the port where it came", Pack.error(0, Bench.THERE, packet, 3, 0, 0), 1, 0);
        bench.take(packet, 7);
        bench.outIs("from address 0", Pack.error(1, 0, packet, 3, 0, 0), 7, 0);
        bench.house.up(1, false);
        Due.is("at a port that is down", bench.take(packet, 1), 22);
        bench.silent("at a port that is down", 4);
        Due.is("not counted", bench.house.about(4), 2);
        bench.take(packet, 0);
        bench.outIs("identity goes on", Pack.error(2, Bench.HERE, packet, 3, 0, 0), 0, 0);
    }

    private static void tokens() {
        Bench bench = new Bench();
        RouteHouse house = bench.house;
        for (int left = 5; left >= 0; left--) {
            bench.take(lost(), 0);
            Due.is("tokens left", house.about(3), left);
            Due.is("an error went out", house.about(1), 1);
        }
        Due.is("the outcome stays", bench.take(lost(), 0), 22);
        bench.silent("no token", 0);
        house.pass(9);
        Due.is("nine units", house.about(3), 0);
        house.pass(1);
        Due.is("ten units", house.about(3), 1);
        bench.take(lost(), 0);
        bench.outIs("with the new one", Pack.error(6, Bench.HERE, lost().bytes(), 3, 0, 0), 0, 0);
        Due.is("none again", house.about(3), 0);
        house.pass(25);
        Due.is("two of 25 units", house.about(3), 2);
        house.pass(5);
        Due.is("a third at time 40", house.about(3), 3);
        house.pass(100);
        Due.is("six at the most", house.about(3), 6);
    }
}
