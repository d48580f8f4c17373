/** data: of what was delivered latest, byte k of its data; NONE when there is none. */
public final class Promise15DataTest {
    public static void main(String[] args) {
        Due.cases(Promise15DataTest.class);
    }

    private static Bench delivered(int first, int many) {
        Bench bench = new Bench();
        bench.take(Pack.to(Bench.HERE).data(Pack.count(first, many)), 0);
        return bench;
    }

    static void tellsEachByteWithoutASign() {
        Bench bench = delivered(100, 200);
        for (int k = 0; k < 200; k++) {
            Due.is("byte " + k, bench.house.data(k), (100 + k) % 256);
        }
    }

    static void noneBeforeAnythingWasDelivered() {
        RouteHouse house = new RouteHouse();
        for (int k : new int[] {0, 1, -1, 3999, 4000, Integer.MAX_VALUE, Integer.MIN_VALUE}) {
            Due.is("byte " + k, house.data(k), RouteHouse.NONE);
        }
    }

    static void noneBehindTheLastByte() {
        Bench bench = delivered(1, 60);
        Due.is("the last", bench.house.data(59), 60);
        Due.is("one behind", bench.house.data(60), RouteHouse.NONE);
        Due.is("far behind", bench.house.data(Integer.MAX_VALUE), RouteHouse.NONE);
    }

    static void noneBelowZero() {
        Bench bench = delivered(1, 60);
        Due.is("the first", bench.house.data(0), 1);
        Due.is("one before", bench.house.data(-1), RouteHouse.NONE);
        Due.is("far before", bench.house.data(Integer.MIN_VALUE), RouteHouse.NONE);
    }

    static void noneOfOneWithoutData() {
        Bench bench = delivered(1, 60);
        bench.take(Pack.to(Bench.HERE), 0);
        Due.is("byte 0", bench.house.data(0), RouteHouse.NONE);
    }

    static void noneOfALongerOneBefore() {
        Bench bench = delivered(1, 60);
        bench.take(Pack.to(Bench.HERE).data(99), 0);
        Due.is("byte 0", bench.house.data(0), 99);
        Due.is("byte 1", bench.house.data(1), RouteHouse.NONE);
    }

    static void byte255IsNotNone() {
        Bench bench = delivered(255, 1);
        Due.is("byte 0", bench.house.data(0), 255);
    }

    static void staysWhateverElseIsReceived() {
        Bench bench = delivered(1, 60);
        bench.take(Pack.to(Bench.WIDE).data(Pack.count(90, 3)), 0);
        bench.take(Pack.to(Bench.LOST).data(Pack.count(90, 3)), 0);
        bench.take(Pack.to(Bench.HERE).protocol(1).data(Pack.control(8, 0, Pack.count(1, 9))), 0);
        bench.take(Pack.to(Bench.HERE).protocol(9).data(Pack.count(90, 3)), 0);
        bench.take(Pack.to(Bench.HERE).cut(Pack.MORE, 0).data(Pack.count(90, 8)), 0);
        bench.house.pass(50);
        Due.is("all of it", bench.delivered(), Pack.count(1, 60));
    }

    static void staysWhenTheTapeIsFedAgain() {
        Bench bench = delivered(1, 20);
        bench.lay(new byte[100]);
        Due.is("all of it", bench.delivered(), Pack.count(1, 20));
    }
}
