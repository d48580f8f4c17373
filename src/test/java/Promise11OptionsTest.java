import java.util.Arrays;

/** receive: outcome 7, and the options that are right. */
public final class Promise11OptionsTest {
    public static void main(String[] args) {
        Due.cases(Promise11OptionsTest.class);
    }

    private static void right(String what, int... options) {
        Bench bench = new Bench();
        Due.is(what, bench.take(Pack.to(Bench.HERE).options(options), 0), 13);
        Due.is(what + ", of others", bench.take(Pack.to(Bench.WIDE).options(options), 0), 25);
        Due.is(what + ": no error", bench.house.about(4), 0);
    }

    private static void wrong(String what, int place, int... options) {
        for (int destination : new int[] {Bench.HERE, Bench.WIDE, 0, -1}) {
            Bench bench = new Bench();
            byte[] packet = Pack.to(destination).options(options).hops(0).data(Pack.count(40, 9)).bytes();
            Due.is(what, bench.take(packet, 0), 7);
            bench.outIs(what, Pack.error(0, Bench.HERE, packet, 12, 0, place << 24), 0, 0);
        }
    }

    /** So many options of one byte each, then these, then others of one byte up to a full word. */
    private static int[] behind(int ones, int... then) {
        int[] options = new int[(ones + then.length + 3) / 4 * 4];
        Arrays.fill(options, 1);
        System.arraycopy(then, 0, options, ones, then.length);
        return options;
    }

    static void oneStandsAlone() {
        right("one word", 1, 1, 1, 1);
        right("ten words", behind(40));
    }

    static void zeroEndsThem() {
        right("at once", 0, 7, 255, 255);
        right("behind one", 1, 0, 7, 0);
        right("behind an option", 7, 2, 0, 130);
        right("in the last place", 1, 1, 1, 0);
        right("nothing but 0", 0, 0, 0, 0);
    }

    static void zeroInAnOptionDoesNotEndThem() {
        wrong("length 0 behind an option with 0", 24, 7, 4, 0, 0, 7, 0, 0, 0);
    }

    static void lengthTwoIsTheLeast() {
        right("two of them", 7, 2, 130, 2);
        wrong("length 1", 20, 7, 1, 1, 1);
        wrong("length 0", 20, 7, 0, 1, 1);
    }

    static void lengthUpToTheHeadersEndIsRight() {
        right("four bytes", 68, 4, 9, 9);
        right("three bytes", 1, 68, 3, 9);
        right("two bytes", 1, 1, 68, 2);
        int[] all = new int[40];
        all[0] = 255;
        all[1] = 40;
        right("forty bytes", all);
    }

    static void lengthBeyondTheHeadersEndIsWrong() {
        wrong("by one", 20, 68, 5, 9, 9);
        wrong("by one, behind another", 22, 7, 2, 7, 3);
        int[] all = new int[40];
        all[0] = 255;
        all[1] = 41;
        wrong("forty-one bytes", 20, all);
    }

    static void lengthBeyondTheHeaderButInTheDataIsWrong() {
        wrong("up to the packet's end", 20, 68, 13, 9, 9);
    }

    static void lengthHasNoSign() {
        wrong("127", 20, 7, 127, 0, 0);
        wrong("128", 20, 7, 128, 0, 0);
        wrong("255", 20, 200, 255, 0, 0);
    }

    static void optionWithoutALengthIsWrong() {
        wrong("in the last place", 23, 1, 1, 1, 7);
        wrong("in the last of forty", 59, behind(39, 9));
        wrong("of 128 and above", 23, 1, 1, 1, 200);
    }

    static void eachTypeButZeroAndOneHasALength() {
        for (int type = 0; type < 256; type++) {
            Bench bench = new Bench();
            Due.is("type " + type, bench.take(Pack.to(Bench.HERE).options(type, 0, 0, 0), 0), type < 2 ? 13 : 7);
        }
    }

    static void placeIsThatOfTheOptionsFirstByte() {
        for (int ones = 0; ones < 39; ones++) {
            Bench bench = new Bench();
            byte[] packet = Pack.to(Bench.HERE).options(behind(ones, 7, 0)).bytes();
            Due.is("outcome", bench.take(packet, 0), 7);
            bench.outIs("behind " + ones, Pack.error(0, Bench.HERE, packet, 12, 0, 20 + ones << 24), 0, 0);
        }
    }

    static void placeIsThatOfTheFirstWrongOption() {
        wrong("two wrong ones", 21, 1, 7, 0, 7, 1, 1, 1, 1);
        wrong("behind a right one", 23, 7, 3, 9, 130, 6, 0, 0, 0);
    }

    static void wrongOnesBehindTheEndAreNotLookedAt() {
        right("length 0 there", 1, 0, 7, 0);
    }

    static void outcome7ComesBeforePutTogether() {
        Bench bench = new Bench();
        Pack piece = Pack.to(Bench.HERE).cut(Pack.MORE, 0).options(7, 0, 0, 0).data(Pack.count(0, 8));
        Due.is("a piece", bench.take(piece, 0), 7);
        bench.outIs("its error", Pack.error(0, Bench.HERE, piece.bytes(), 12, 0, 20 << 24), 0, 0);
        Due.is("not kept", bench.house.about(2), 0);
    }

    static void outcome7WithoutAnErrorAboutAnOffset() {
        Bench bench = new Bench();
        Due.is("an offset", bench.take(Pack.to(Bench.HERE).cut(0, 1).options(7, 0, 0, 0).data(1), 0), 7);
        bench.silent("an offset", 6);
    }

    static void outcome7AtAPortThatIsDown() {
        Bench bench = new Bench();
        bench.house.up(0, false);
        Due.is("down", bench.take(Pack.to(Bench.HERE).options(7, 0, 0, 0), 0), 7);
        bench.silent("down", 6);
    }
}
