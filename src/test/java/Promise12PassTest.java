/** pass: time goes on unit by unit, tokens come, and what has waited long enough goes. */
public final class Promise12PassTest {
    public static void main(String[] args) {
        Due.cases(Promise12PassTest.class);
    }

    private static Pack first(int identity) {
        return Pack.to(Bench.HERE).identity(identity).cut(Pack.MORE, 0).data(Pack.count(identity, 16));
    }

    private static Pack end(int identity) {
        return Pack.to(Bench.HERE).identity(identity).cut(0, 2).data(Pack.count(identity + 16, 3));
    }

    private static void silent(String what, Bench bench, Pack pack) {
        Due.is(what, bench.take(pack, 1), 10);
        Due.is(what + ": sent", bench.house.pass(30), 0);
        bench.silent(what, 6);
        Due.is(what + ": gone", bench.house.about(2), 0);
        Due.is(what + ": errors and answers", bench.house.about(4), 0);
    }

    static void zeroUnitsAreTaken() {
        RouteHouse house = new RouteHouse();
        Due.is("sent", house.pass(0), 0);
        Due.is("time", house.about(5), 0);
    }

    static void hundredUnitsAreTaken() {
        RouteHouse house = new RouteHouse();
        Due.is("sent", house.pass(100), 0);
        Due.is("time", house.about(5), 100);
        house.pass(1);
        Due.is("time", house.about(5), 101);
    }

    static void belowZeroIsRefused() {
        Busy.badNumber("-1", house -> house.pass(-1));
        Busy.badNumber("the lowest number", house -> house.pass(Integer.MIN_VALUE));
    }

    static void above100IsRefused() {
        Busy.badNumber("101", house -> house.pass(101));
        Busy.badNumber("the highest number", house -> house.pass(Integer.MAX_VALUE));
    }

    static void outIsTheseAlone() {
        Bench bench = new Bench();
        bench.take(first(1), 0);
        bench.take(Pack.to(Bench.WIDE), 0);
        Due.is("sent", bench.house.pass(30), 1);
        bench.outIs("the error alone", Pack.error(0, Bench.HERE, first(1).bytes(), 11, 1, 0), 0, 0);
        bench.house.pass(1);
        bench.silent("then nothing", 5);
    }

    static void outIsEmptyAfterZeroUnits() {
        Bench bench = new Bench();
        bench.take(Pack.to(Bench.WIDE), 0);
        Due.is("sent", bench.house.pass(0), 0);
        bench.silent("0 units", 6);
    }

    static void tapeStays() {
        Bench bench = new Bench();
        bench.lay(Pack.to(Bench.HERE).data(7).bytes());
        bench.house.pass(50);
        Due.is("received", bench.house.receive(0), 13);
        Due.is("data", bench.house.data(0), 7);
    }

    static void waits29Units() {
        Bench bench = new Bench();
        bench.take(first(5), 0);
        Due.is("sent", bench.house.pass(29), 0);
        Due.is("waiting", bench.house.about(2), 1);
        Due.is("its end is in time", bench.take(end(5), 0), 13);
        Due.is("data", bench.delivered(), Pack.count(5, 19));
    }

    static void goesAfter30Units() {
        Bench bench = new Bench();
        bench.take(first(5), 0);
        bench.house.pass(29);
        Due.is("sent", bench.house.pass(1), 1);
        Due.is("waiting", bench.house.about(2), 0);
        Due.is("its end is too late", bench.take(end(5), 0), 10);
        Due.is("waiting", bench.house.about(2), 1);
    }

    static void goesAfter30UnitsInOneCall() {
        for (int units : new int[] {29, 30, 31, 100}) {
            Bench bench = new Bench();
            bench.take(first(5), 0);
            Due.is(units + " units", bench.house.pass(units), units < 30 ? 0 : 1);
        }
    }

    static void goesAfter30UnitsWheneverItBegan() {
        for (int time = 1; time <= 12; time++) {
            Bench bench = new Bench();
            bench.house.pass(time);
            bench.take(first(5), 0);
            Due.is("29 units", bench.house.pass(29), 0);
            Due.is("30 units", bench.house.pass(1), 1);
        }
    }

    static void goesOnce() {
        Bench bench = new Bench();
        bench.take(first(5), 0);
        bench.house.pass(30);
        Due.is("sent", bench.house.pass(100), 0);
        Due.is("errors", bench.house.about(4), 1);
    }

    static void waitsSinceItsFirstPieceNotItsLatest() {
        Bench bench = new Bench();
        bench.take(end(5), 0);
        bench.house.pass(20);
        bench.take(first(5).data(Pack.count(0, 8)), 0);
        Due.is("29 units", bench.house.pass(9), 0);
        Due.is("30 units", bench.house.pass(1), 1);
    }

    static void waitsAnewWhenItWasDropped() {
        Bench bench = new Bench();
        bench.take(first(5), 0);
        bench.house.pass(20);
        bench.take(first(5).data(1, 2, 3), 0);
        bench.take(first(5), 0);
        Due.is("29 units", bench.house.pass(29), 0);
        Due.is("30 units", bench.house.pass(1), 1);
    }

    static void errorQuotesHeaderAndEightBytesAsTheyCame() {
        Bench bench = new Bench();
        byte[] packet = first(5).options(1, 1, 1, 0).service(3).cut(0xe000, 0).bytes();
        bench.take(packet, 2);
        Due.is("sent", bench.house.pass(30), 1);
        bench.outIs("MORE and all as it came", Pack.error(0, 0, packet, 11, 1, 0), 2, 0);
    }

    static void errorQuotesTheLongestHeader() {
        Bench bench = new Bench();
        int[] options = new int[40];
        java.util.Arrays.fill(options, 1);
        byte[] packet = first(5).options(options).bytes();
        bench.take(packet, 1);
        Due.is("sent", bench.house.pass(30), 1);
        bench.outIs("96 bytes", Pack.error(0, Bench.THERE, packet, 11, 1, 0), 1, 0);
    }

    static void errorGoesOutAtThePortOfThePieceWithOffsetZero() {
        Bench bench = new Bench();
        bench.take(end(5).cut(0, 9), 0);
        bench.take(first(5).data(Pack.count(0, 8)), 1);
        bench.take(first(5).cut(Pack.MORE, 1), 2);
        Due.is("sent", bench.house.pass(30), 1);
        byte[] about = first(5).data(Pack.count(0, 8)).bytes();
        bench.outIs("port 1", Pack.error(0, Bench.THERE, about, 11, 1, 0), 1, 0);
    }

    static void errorIsAboutTheLatestPieceWithOffsetZero() {
        Bench bench = new Bench();
        byte[] latest = first(5).service(8).data(Pack.count(77, 8)).bytes();
        bench.take(first(5).hops(3).options(1, 1, 1, 1), 0);
        bench.take(latest, 1);
        bench.take(end(5).cut(0, 9), 2);
        Due.is("sent", bench.house.pass(30), 1);
        bench.outIs("the latest, at its port", Pack.error(0, Bench.THERE, latest, 11, 1, 0), 1, 0);
    }

    static void noErrorWithoutThePieceWithOffsetZero() {
        silent("MORE", new Bench(), Pack.to(Bench.HERE).cut(Pack.MORE, 1).data(Pack.count(0, 8)));
        silent("the end", new Bench(), Pack.to(Bench.HERE).cut(0, 1).data(Pack.count(0, 8)));
    }

    static void noErrorAboutSourceZero() {
        silent("source 0", new Bench(), first(1).from(0));
    }

    static void noErrorAboutProtocol1ThatBeginsOtherwise() {
        silent("an error", new Bench(), first(1).protocol(1).data(Pack.control(3, 0, new byte[12])));
    }

    static void errorAboutARequest() {
        Bench bench = new Bench();
        bench.take(first(1).protocol(1).data(Pack.control(8, 0, new byte[12])), 1);
        Due.is("a request", bench.house.pass(30), 1);
        bench.take(first(1).protocol(1).data(Pack.control(0, 0, new byte[12])), 1);
        Due.is("an answer", bench.house.pass(30), 1);
    }

    static void noErrorWhenThatPortIsDown() {
        Bench bench = new Bench();
        bench.house.up(1, false);
        silent("down when it came", bench, first(1));
        bench.house.up(1, true);
        bench.take(first(1), 1);
        bench.house.up(1, false);
        Due.is("down then", bench.house.pass(30), 0);
        Due.is("gone", bench.house.about(2), 0);
    }

    static void errorWhenThatPortIsUpAgain() {
        Bench bench = new Bench();
        bench.house.up(1, false);
        bench.take(first(1), 1);
        bench.house.up(1, true);
        bench.house.port(1, Bench.GATE, 100);
        Due.is("sent", bench.house.pass(30), 1);
        bench.outIs("from the address it has now", Pack.error(0, Bench.GATE, first(1).bytes(), 11, 1, 0), 1, 0);
    }

    static void noErrorWhenNoTokenIsLeft() {
        Bench bench = new Bench();
        bench.house.pass(1);
        bench.take(first(1), 0);
        bench.house.pass(29);
        bench.spendTokens();
        Due.is("sent at time 31", bench.house.pass(1), 0);
        bench.silent("no token", 0);
        Due.is("gone all the same", bench.house.about(2), 0);
    }

    static void nothingOfWhatWaitedBeforeIsLeft() {
        Bench bench = new Bench();
        bench.take(first(1), 1);
        bench.house.pass(30);
        silentAgain(bench);
        bench.take(first(1), 1);
        bench.take(Pack.to(Bench.HERE).identity(1).cut(0, 2).data(Pack.count(0, 9)), 1);
        Due.is("whole", bench.house.about(6), 1);
        Due.is("a piece again", bench.take(first(1).data(Pack.count(0, 8)), 1), 10);
        Due.is("the middle is missing", bench.take(Pack.to(Bench.HERE).identity(1).cut(0, 2).data(1), 1), 10);
        Due.is("it waits", bench.house.about(2), 1);
    }

    private static void silentAgain(Bench bench) {
        bench.take(Pack.to(Bench.HERE).cut(0, 1).data(7), 1);
        Due.is("no piece with offset 0, but one before", bench.house.pass(30), 0);
    }

    static void fourGoInOneUnitTheOldestFirst() {
        Bench bench = new Bench();
        for (int identity = 1; identity <= 4; identity++) {
            bench.take(first(identity), 0);
        }
        bench.house.pass(29);
        Due.is("sent", bench.house.pass(1), 4);
        Due.is("none waits", bench.house.about(2), 0);
        for (int i = 0; i < 4; i++) {
            bench.outHas("the oldest first", i, Pack.error(i, Bench.HERE, first(i + 1).bytes(), 11, 1, 0), 0, 0);
        }
    }

    static void oldestGoesFirstThoughALaterPieceOfItCame() {
        Bench bench = new Bench();
        for (int identity = 1; identity <= 4; identity++) {
            bench.take(first(identity), 0);
            bench.house.pass(identity % 2);
        }
        bench.take(first(1), 1);
        Due.is("all four", bench.house.pass(100), 4);
        int[] ports = {1, 0, 0, 0};
        for (int i = 0; i < 4; i++) {
            int from = ports[i] == 1 ? Bench.THERE : Bench.HERE;
            bench.outHas("in their order", i, Pack.error(i, from, first(i + 1).bytes(), 11, 1, 0), ports[i], 0);
        }
    }

    static void eachGoesInItsOwnUnit() {
        Bench bench = new Bench();
        bench.take(first(1), 0);
        bench.house.pass(1);
        bench.take(first(2), 0);
        bench.house.pass(28);
        Due.is("time 30", bench.house.pass(1), 1);
        Due.is("waiting", bench.house.about(2), 1);
        Due.is("time 31", bench.house.pass(1), 1);
    }

    static void tokenComesAtEachMultipleOfTen() {
        Bench bench = new Bench();
        bench.spendTokens();
        for (int time = 1; time <= 70; time++) {
            bench.house.pass(1);
            Due.is("tokens at time " + time, bench.house.about(3), Math.min(6, time / 10));
        }
    }

    static void tokensComeInOneCallToo() {
        for (int units : new int[] {9, 10, 19, 20, 59, 60, 100}) {
            Bench bench = new Bench();
            bench.spendTokens();
            bench.house.pass(units);
            Due.is("tokens after " + units, bench.house.about(3), Math.min(6, units / 10));
        }
    }

    static void tokensComeByTheTimeNotByTheCall() {
        Bench bench = new Bench();
        bench.house.pass(7);
        bench.spendTokens();
        bench.house.pass(2);
        Due.is("time 9", bench.house.about(3), 0);
        bench.house.pass(1);
        Due.is("time 10", bench.house.about(3), 1);
        bench.house.pass(25);
        Due.is("time 35", bench.house.about(3), 3);
    }

    static void zeroUnitsAtAMultipleOfTenBringNoToken() {
        Bench bench = new Bench();
        bench.spendTokens();
        bench.house.pass(0);
        Due.is("time 0", bench.house.about(3), 0);
        bench.house.pass(10);
        bench.house.pass(0);
        Due.is("time 10", bench.house.about(3), 1);
    }

    static void tokensAreSixAtMost() {
        RouteHouse house = new RouteHouse();
        house.pass(100);
        Due.is("tokens", house.about(3), 6);
    }

    static void tokenIsThereForWhatGoesInItsUnit() {
        Bench bench = new Bench();
        bench.take(first(1), 0);
        bench.take(first(2), 0);
        bench.house.pass(29);
        bench.spendTokens();
        Due.is("the token of time 30 is there for the oldest", bench.house.pass(1), 1);
        Due.is("both are gone", bench.house.about(2), 0);
        bench.outIs("the oldest", Pack.error(6, Bench.HERE, first(1).bytes(), 11, 1, 0), 0, 0);
        Due.is("tokens", bench.house.about(3), 0);
    }

    static void sixTokensBringNoSeventhBeforeWhatGoes() {
        Bench bench = new Bench();
        bench.take(first(1), 0);
        Due.is("sent at time 30", bench.house.pass(30), 1);
        Due.is("tokens", bench.house.about(3), 5);
    }
}
