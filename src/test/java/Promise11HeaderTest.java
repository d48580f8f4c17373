/** receive: outcomes 1 to 7, each at its edges, and the order in which they are looked for. */
public final class Promise11HeaderTest {
    public static void main(String[] args) {
        lengths();
        addresses();
        beyondTheLastByte();
        rightOptions();
        wrongOptions();
        tapeAndOut();
        Due.close();
    }

    private static Pack own() {
        return Pack.to(Bench.HERE);
    }

    private static void is(String what, byte[] row, int outcome) {
        Bench bench = new Bench();
        Due.is(what, bench.take(row, 0), outcome);
        if (outcome < 7) {
            bench.silent(what, 6);
        }
        Due.is(what + ": the tape is empty then", bench.house.about(10), 0);
    }

    /** The packet with other bytes and the sum that is right for them. */
    private static byte[] changed(byte[] packet, int... placesAndValues) {
        byte[] row = packet.clone();
        for (int i = 0; i < placesAndValues.length; i += 2) {
            row[placesAndValues[i]] = (byte) placesAndValues[i + 1];
        }
        int header = Math.min(row.length, (row[0] & 15) * 4);
        row[10] = row[11] = 0;
        Pack.put(row, 10, 2, Pack.sum(Pack.part(row, 0, header)));
        return row;
    }

    private static void lengths() {
        byte[] good = own().data(1, 2, 3, 4).bytes();
        is("nothing", new byte[0], 1);
        is("19 bytes", Pack.part(good, 0, 19), 1);
        is("19 bytes of another version", new byte[19], 1);
        is("version 6", changed(good, 0, 0x65), 2);
        is("version 5 before 4 words", changed(good, 0, 0x54), 2);
        is("version 12", changed(good, 0, 0xc5), 2);
        is("4 words", changed(good, 0, 0x44), 3);
        is("no words", changed(good, 0, 0x40), 3);
        is("7 words of 24 bytes", changed(good, 0, 0x47), 3);
        is("15 words of 24 bytes, before the length", changed(good, 0, 0x4f, 3, 0), 3);
        is("length below the header", changed(good, 3, 19), 4);
        is("length 0", changed(good, 3, 0), 4);
        is("length beyond what came", changed(good, 3, 25), 4);
        is("length far beyond what came", changed(good, 2, 255), 4);
        byte[] wrongSum = good.clone();
        wrongSum[11]++;
        is("another sum", wrongSum, 5);
        byte[] both = changed(good, 3, 25);
        both[11]++;
        is("length before sum", both, 4);
        byte[] source = own().from(Pack.ip(127, 0, 0, 1)).bytes();
        source[10]++;
        is("sum before source", source, 5);
        is("as long as the header", own().bytes(), 13);
        Bench bench = new Bench();
        Due.is("more came than its length", bench.take(Pack.join(good, Pack.count(9, 30)), 0), 13);
        Due.is("its data alone", bench.delivered(), Pack.count(1, 4));
    }

    private static void addresses() {
        is("source 126", own().from(Pack.ip(126, 255, 255, 255)).bytes(), 13);
        is("source 127", own().from(Pack.ip(127, 0, 0, 0)).bytes(), 6);
        is("source 128", own().from(Pack.ip(128, 0, 0, 0)).bytes(), 13);
        is("source 223", own().from(Pack.ip(223, 255, 255, 255)).bytes(), 13);
        is("source 224", own().from(Pack.ip(224, 0, 0, 0)).bytes(), 6);
        is("source 255", own().from(-1).bytes(), 6);
        is("source 0", own().from(0).bytes(), 13);
        is("source before options", own().from(-1).options(7, 9, 9, 9).bytes(), 6);
    }

    private static void beyondTheLastByte() {
        Pack last = Pack.to(Bench.WIDE).cut(0, 8191);
        is("up to 65535", last.data(Pack.count(0, 7)).bytes(), 25);
        is("65536", last.data(Pack.count(0, 8)).bytes(), 6);
        last.cut(0, 8190);
        is("up to 65535 again", last.data(Pack.count(0, 15)).bytes(), 25);
        is("65536 again", last.data(Pack.count(0, 16)).bytes(), 6);
        is("the header does not count", last.options(1, 1, 1, 0).data(Pack.count(0, 15)).bytes(), 25);
    }

    private static void rightOptions() {
        is("alone ones", own().options(1, 1, 1, 1).bytes(), 13);
        is("the end", own().options(0, 7, 255, 255).bytes(), 13);
        is("the least", own().options(7, 2, 130, 2).bytes(), 13);
        is("up to the header's end", own().options(1, 68, 3, 9).bytes(), 13);
        int[] all = new int[40];
        all[0] = 255;
        all[1] = 40;
        is("forty bytes", own().options(all).bytes(), 13);
        is("of another one's packet", Pack.to(Bench.WIDE).options(7, 4, 0, 0).bytes(), 25);
    }

    private static void wrongOptions() {
        wrongAt("no length behind it", 23, 1, 1, 1, 7);
        wrongAt("length 0", 20, 7, 0, 0, 0);
        wrongAt("length 1", 21, 1, 7, 1, 1);
        wrongAt("beyond the header", 22, 7, 2, 7, 3);
        wrongAt("far beyond the header", 20, 200, 255, 0, 0);
        wrongAt("behind a right one", 23, 7, 3, 9, 130, 6, 0, 0, 0);
        wrongAt("the length byte's sign does not count", 20, 7, 128, 0, 0);
        int[] all = new int[40];
        java.util.Arrays.fill(all, 1);
        all[39] = 9;
        wrongAt("the last of forty", 59, all);
        Bench bench = new Bench();
        Due.is("before the destination", bench.take(Pack.to(0).options(7, 0, 0, 0), 0), 7);
        Due.is("with an offset", bench.take(Pack.to(0).cut(0, 1).options(7, 0, 0, 0), 0), 7);
        bench.silent("nothing about an offset", 5);
    }

    private static void wrongAt(String what, int place, int... options) {
        for (int destination : new int[] {Bench.HERE, Bench.WIDE}) {
            Bench bench = new Bench();
            byte[] packet = Pack.to(destination).options(options).data(Pack.count(40, 9)).bytes();
            Due.is(what, bench.take(packet, 0), 7);
            bench.outIs(what, Pack.error(0, Bench.HERE, packet, 12, 0, place << 24), 0, 0);
        }
    }

    private static void tapeAndOut() {
        Bench bench = new Bench();
        RouteHouse house = bench.house;
        bench.take(Pack.to(Bench.WIDE), 0);
        bench.lay(Pack.to(Bench.WIDE).bytes());
        Due.noSuch("port 8", () -> house.receive(8));
        Due.noSuch("port -1", () -> house.receive(-1));
        Due.is("the tape stays", house.about(10), 20);
        Due.is("the out stays", house.about(1), 1);
        Due.is("then it is received", house.receive(7), 25);
        Due.is("an empty tape", house.receive(7), 1);
        Due.is("the out is empty", house.about(1), 0);
    }
}
