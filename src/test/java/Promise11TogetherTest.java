/** receive: outcome 10 and what is put together. */
public final class Promise11TogetherTest {
    public static void main(String[] args) {
        anyOrder();
        keys();
        lastBytesCount();
        droppedWithAll();
        droppedAlone();
        edgesOfTheEnd();
        fourThousand();
        fifthLetsTheOldestGo();
        wholeIsAnswered();
        wholeHasAnError();
        Due.close();
    }

    private static Pack piece(int flags, int offset, byte[] data) {
        return Pack.to(Bench.HERE).identity(9).cut(flags, offset).data(data);
    }

    private static void waits(Bench bench, String what, Pack pack, int waiting) {
        Due.is(what, bench.take(pack, 0), 10);
        bench.silent(what, bench.house.about(3));
        Due.is(what + ": waiting", bench.house.about(2), waiting);
    }

    private static void anyOrder() {
        byte[] data = Pack.count(1, 61);
        Pack[] pieces = {
            piece(Pack.MORE, 0, Pack.part(data, 0, 24)),
            piece(Pack.MORE, 3, Pack.part(data, 24, 48)),
            piece(0, 6, Pack.part(data, 48, 61)),
        };
        int[][] orders = {{0, 1, 2}, {0, 2, 1}, {1, 0, 2}, {1, 2, 0}, {2, 0, 1}, {2, 1, 0}};
        for (int[] order : orders) {
            Bench bench = new Bench();
            waits(bench, "first to come", pieces[order[0]], 1);
            waits(bench, "second to come", pieces[order[1]], 1);
            Due.is("third to come", bench.take(pieces[order[2]], 3), 13);
            Due.is("all of it", bench.delivered(), data);
            Due.is("none waits", bench.house.about(2), 0);
            Due.is("delivered", bench.house.about(6), 1);
            waits(bench, "a piece again", pieces[0], 1);
        }
    }

    private static void keys() {
        Bench bench = new Bench();
        byte[] eight = Pack.count(1, 8);
        waits(bench, "first", piece(Pack.MORE, 0, eight), 1);
        waits(bench, "other source", piece(0, 1, eight).from(Pack.ip(10, 0, 0, 8)), 2);
        waits(bench, "other destination", Pack.to(Bench.THERE).identity(9).cut(0, 1).data(eight), 3);
        waits(bench, "other identity", piece(0, 1, eight).identity(9 + 256), 4);
        bench = new Bench();
        waits(bench, "first", piece(Pack.MORE, 0, eight), 1);
        waits(bench, "other protocol", piece(0, 1, eight).protocol(18), 2);
        Due.is("all the same", bench.take(piece(0, 1, eight).service(77).hops(3).options(1, 1, 1, 1), 5), 13);
        Due.is("the other waits", bench.house.about(2), 1);
    }

    private static void lastBytesCount() {
        Bench bench = new Bench();
        waits(bench, "first", piece(Pack.MORE, 0, Pack.count(0, 24)), 1);
        waits(bench, "over its end", piece(Pack.MORE, 2, Pack.count(100, 16)), 1);
        waits(bench, "over its beginning", piece(Pack.MORE, 0, Pack.count(50, 8)), 1);
        Due.is("last", bench.take(piece(0, 3, Pack.count(200, 11)), 0), 13);
        byte[] want = Pack.join(Pack.count(50, 8), Pack.count(8, 8), Pack.count(100, 8), Pack.count(200, 11));
        Due.is("those that came later", bench.delivered(), want);
    }

    private static void droppedWithAll() {
        Pack[] wrong = {
            piece(Pack.MORE, 3, Pack.count(0, 12)),
            piece(Pack.MORE, 3, Pack.count(0, 1)),
            piece(Pack.MORE, 3, new byte[0]),
            piece(0, 3, new byte[0]),
            piece(0, 499, Pack.count(0, 9)),
            piece(Pack.MORE, 500, Pack.count(0, 8)),
            piece(0, 1, Pack.count(0, 15)),
            piece(0, 1, Pack.count(0, 8)),
        };
        for (int i = 0; i < wrong.length; i++) {
            Bench bench = new Bench();
            waits(bench, "other", piece(Pack.MORE, 0, Pack.count(0, 8)).identity(10), 1);
            waits(bench, "first", piece(Pack.MORE, 0, Pack.count(0, 24)), 2);
            waits(bench, "wrong piece " + i, wrong[i], 1);
            waits(bench, "what comes then begins anew", piece(0, 3, Pack.count(24, 9)), 2);
            Due.is("the other's end", bench.take(piece(0, 1, Pack.count(8, 3)).identity(10), 0), 13);
            Due.is("the other's data", bench.delivered(), Pack.count(0, 11));
        }
    }

    private static void droppedAlone() {
        Bench bench = new Bench();
        for (int identity = 1; identity <= 4; identity++) {
            waits(bench, "one of four", piece(Pack.MORE, 0, Pack.count(0, 8)).identity(identity), identity);
        }
        waits(bench, "none", piece(Pack.MORE, 0, new byte[0]), 4);
        waits(bench, "not a multiple of eight", piece(Pack.MORE, 0, Pack.count(0, 20)), 4);
        waits(bench, "beyond 4000", piece(0, 500, Pack.count(0, 1)), 4);
        Due.is("the oldest is still there", bench.take(piece(0, 1, Pack.count(8, 1)).identity(1), 0), 13);
    }

    private static void edgesOfTheEnd() {
        Pack end = piece(0, 2, Pack.count(16, 8));
        kept("just up to the end, with MORE", end, piece(Pack.MORE, 1, Pack.count(8, 16)));
        kept("the end again", end, piece(0, 2, Pack.count(16, 8)));
        kept("the same end from before", end, piece(0, 1, Pack.count(8, 16)));
        dropped("beyond the end, with MORE", end, piece(Pack.MORE, 2, Pack.count(16, 16)));
        dropped("behind the end", end, piece(Pack.MORE, 3, Pack.count(16, 8)));
        dropped("a later end", end, piece(0, 2, Pack.count(16, 9)));
        dropped("an earlier end", end, piece(0, 2, Pack.count(16, 7)));
        Pack middle = piece(Pack.MORE, 1, Pack.count(8, 16));
        kept("an end where others go", middle, piece(0, 2, Pack.count(16, 8)));
        dropped("an end before where others go", middle, piece(0, 2, Pack.count(16, 7)));
        Bench bench = new Bench();
        waits(bench, "end", piece(0, 2, Pack.count(16, 8)), 1);
        Due.is("with MORE, but up to the end", bench.take(piece(Pack.MORE, 0, Pack.count(0, 24)), 0), 13);
        Due.is("whole", bench.delivered(), Pack.count(0, 24));
    }

    private static void kept(String what, Pack one, Pack other) {
        Bench bench = new Bench();
        waits(bench, what, one, 1);
        waits(bench, what, other, 1);
    }

    private static void dropped(String what, Pack one, Pack other) {
        Bench bench = new Bench();
        waits(bench, what, one, 1);
        waits(bench, what, other, 0);
    }

    private static void fourThousand() {
        Bench bench = new Bench();
        bench.house.port(0, Bench.HERE, 1500);
        byte[] data = Pack.count(9, 4000);
        waits(bench, "last", piece(0, 240, Pack.part(data, 1920, 3900)).identity(8), 1);
        waits(bench, "last up to 4000", piece(0, 260, Pack.part(data, 2080, 4000)), 2);
        waits(bench, "middle", piece(Pack.MORE, 130, Pack.part(data, 1040, 2080)), 2);
        Due.is("first", bench.take(piece(Pack.MORE, 0, Pack.part(data, 0, 1040)), 0), 13);
        Due.is("4000 bytes", bench.house.about(9), 4000);
        for (int k : new int[] {0, 1039, 1040, 2079, 2080, 3999}) {
            Due.is("byte " + k, bench.house.data(k), data[k] & 255);
        }
        Due.is("none behind", bench.house.data(4000), RouteHouse.NONE);
    }

    private static void fifthLetsTheOldestGo() {
        Bench bench = new Bench();
        for (int identity = 1; identity <= 4; identity++) {
            waits(bench, "one of four", piece(Pack.MORE, 0, Pack.count(identity, 8)).identity(identity), identity);
        }
        waits(bench, "one more piece of the oldest", piece(Pack.MORE, 1, Pack.count(0, 8)).identity(1), 4);
        waits(bench, "the fifth", piece(Pack.MORE, 0, Pack.count(5, 8)).identity(5), 4);
        Due.is("no token", bench.house.about(3), 6);
        for (int identity = 2; identity <= 5; identity++) {
            Due.is("still there", bench.take(piece(0, 1, Pack.count(0, 1)).identity(identity), 0), 13);
            Due.is("its own data", bench.house.data(0), identity);
        }
        waits(bench, "the oldest is gone", piece(0, 2, Pack.count(0, 1)).identity(1), 1);
    }

    private static void wholeIsAnswered() {
        Bench bench = new Bench();
        byte[] rest = Pack.count(1, 3996);
        byte[] request = Pack.control(8, 0, rest);
        byte[] answer = Pack.control(0, 0, rest);
        Pack piece = Pack.to(Bench.HERE).protocol(1).identity(3);
        Due.is("end", bench.take(piece.cut(0, 260).data(Pack.part(request, 2080, 4000)), 0), 10);
        Due.is("middle", bench.take(piece.cut(Pack.MORE, 40).data(Pack.part(request, 320, 2080)), 0), 10);
        Due.is("beginning", bench.take(piece.cut(Pack.MORE, 0).data(Pack.part(request, 0, 320)), 1), 11);
        Due.is("fifty pieces", bench.house.about(1), 50);
        Pack own = Pack.to(Bench.PEER).from(Bench.HERE).identity(0).protocol(1);
        bench.outHas("the last", 49, own.cut(0, 490).data(Pack.part(answer, 3920, 4000)).bytes(), 1, 0);
    }

    private static void wholeHasAnError() {
        Bench bench = new Bench();
        Pack end = piece(0, 2, Pack.count(16, 5)).protocol(50);
        Pack early = piece(Pack.MORE, 0, Pack.count(0, 8)).protocol(50).service(1).options(1, 1, 1, 1);
        Pack later = piece(0xe000, 0, Pack.count(30, 8)).protocol(50).service(2).options(7, 4, 1, 1).hops(9);
        waits(bench, "end", end, 1);
        waits(bench, "beginning", early, 1);
        waits(bench, "beginning again", later, 1);
        Pack middle = piece(Pack.MORE, 1, Pack.count(8, 8)).protocol(50);
        Due.is("middle", bench.take(middle, 1), 14);
        byte[] whole = Pack.join(Pack.count(30, 8), Pack.count(8, 13));
        byte[] about = later.cut(0xc000, 0).data(whole).bytes();
        bench.outIs("about the whole, where its last piece came", Pack.error(0, Bench.THERE, about, 3, 2, 0), 1, 0);
    }
}
