/** receive: outcomes 1 to 6, each at its edges, and the order in which they are looked for. */
public final class Promise11HeaderTest {
    private static final byte[] GOOD = own().data(1, 2, 3, 4).bytes();

    public static void main(String[] args) {
        Due.cases(Promise11HeaderTest.class);
    }

    private static Pack own() {
        return Pack.to(Bench.HERE);
    }

    private static void is(String what, byte[] row, int outcome) {
        for (boolean isUp : new boolean[] {true, false}) {
            Bench bench = new Bench();
            bench.house.up(0, isUp);
            Due.is(what, bench.take(row, 0), outcome);
            bench.silent(what, 6);
            Due.is(what + ": errors and answers", bench.house.about(4), 0);
            Due.is(what + ": delivered", bench.house.about(6), outcome == 13 ? 1 : 0);
            Due.is(what + ": the tape is empty then", bench.house.about(10), 0);
        }
    }

    private static void is(String what, Pack pack, int outcome) {
        is(what, pack.bytes(), outcome);
    }

    /** The packet with other bytes and the sum that is right for them. */
    private static byte[] changed(byte[] packet, int... placesAndValues) {
        byte[] row = packet.clone();
        for (int i = 0; i < placesAndValues.length; i += 2) {
            row[placesAndValues[i]] = (byte) placesAndValues[i + 1];
        }
        int header = Math.min(row.length, (row[0] & 15) * 4);
        row[10] = row[11] = 0;
        Pack.put(row, 10, 2, Pack.sum(Pack.part(row, 0, header)));
        return row;
    }

    private static byte[] wrongSum(byte[] packet) {
        byte[] row = packet.clone();
        row[11]++;
        return row;
    }

    private static Pack fifteenWords() {
        int[] options = new int[40];
        java.util.Arrays.fill(options, 1);
        return own().options(options);
    }

    static void outcome1OfAnEmptyTape() {
        is("nothing came", new byte[0], 1);
    }

    static void outcome1Of1To19Bytes() {
        for (int length = 1; length < 20; length++) {
            is(length + " bytes", Pack.part(own().bytes(), 0, length), 1);
        }
    }

    static void outcome1ComesBefore2() {
        is("19 bytes of version 0", new byte[19], 1);
    }

    static void twentyBytesAreEnough() {
        is("a bare header", own(), 13);
    }

    static void outcome2OfEachOtherVersion() {
        for (int version = 0; version < 16; version++) {
            is("version " + version, changed(GOOD, 0, version << 4 | 5), version == 4 ? 13 : 2);
        }
    }

    static void outcome2ComesBefore3() {
        is("version 5 and 4 words", changed(GOOD, 0, 0x54), 2);
        is("version 6 and 15 words of 24 bytes", changed(GOOD, 0, 0x6f), 2);
    }

    static void outcome3OfLessThan5Words() {
        for (int words = 0; words < 5; words++) {
            is(words + " words", changed(GOOD, 0, 0x40 | words), 3);
        }
    }

    static void outcome3OfMoreWordsThanCame() {
        is("6 words of 23 bytes", changed(Pack.part(GOOD, 0, 23), 0, 0x46), 3);
        is("7 words of 24 bytes", changed(GOOD, 0, 0x47), 3);
        is("15 words of 59 bytes", Pack.part(fifteenWords().bytes(), 0, 59), 3);
    }

    static void asManyWordsAsCameAreRight() {
        is("6 words of 24 bytes", own().options(1, 1, 1, 1), 13);
        is("15 words of 60 bytes", fifteenWords(), 13);
    }

    static void outcome3ComesBefore4() {
        is("4 words and length 0", changed(GOOD, 0, 0x44, 3, 0), 3);
        is("15 words of 24 bytes and length 255", changed(GOOD, 0, 0x4f, 3, 255), 3);
    }

    static void outcome4OfALengthBelowTheHeader() {
        is("length 0", changed(GOOD, 3, 0), 4);
        is("length 19", changed(GOOD, 3, 19), 4);
        is("length 59 of 15 words", changed(fifteenWords().bytes(), 3, 59), 4);
        is("length 20 of 15 words", changed(fifteenWords().bytes(), 3, 20), 4);
    }

    static void outcome4OfALengthBeyondWhatCame() {
        is("length 25 of 24 bytes", changed(GOOD, 3, 25), 4);
        is("length 24 of 23 bytes", Pack.part(GOOD, 0, 23), 4);
        is("length 65535", changed(GOOD, 2, 255, 3, 255), 4);
        is("length 2001 of 2000 bytes", changed(own().data(new byte[1980]).bytes(), 2, 2001 >> 8, 3, 2001 & 255), 4);
    }

    static void lengthOfJustTheHeaderIsRight() {
        is("20 of 24 bytes", changed(GOOD, 3, 20), 13);
        is("60 of 60 bytes", fifteenWords(), 13);
    }

    static void lengthOfAllThatCameIsRight() {
        is("24 of 24 bytes", GOOD, 13);
        is("2000 of 2000 bytes", own().data(new byte[1980]), 13);
    }

    static void outcome4ComesBefore5() {
        is("length 25 and another sum", wrongSum(changed(GOOD, 3, 25)), 4);
    }

    static void bytesBeyondTheLengthAreNotLookedAt() {
        for (int more = 1; more <= 40; more++) {
            Bench bench = new Bench();
            Due.is("received", bench.take(Pack.join(GOOD, Pack.count(9, more)), 0), 13);
            Due.is("its data alone", bench.delivered(), Pack.count(1, 4));
        }
    }

    static void outcome5OfAnotherSum() {
        for (int by : new int[] {1, 2, 255, 256, 0x8000, 0xfffe, 0xffff}) {
            byte[] row = GOOD.clone();
            Pack.put(row, 10, 2, ((row[10] & 255) << 8 | row[11] & 255) + by);
            is("another by " + by, row, 5);
        }
    }

    static void outcome5OfEachByteOfTheHeader() {
        byte[] packet = own().options(1, 1, 1, 1).data(9).bytes();
        for (int at : new int[] {1, 4, 5, 6, 7, 8, 9, 12, 13, 14, 15, 16, 17, 18, 19, 20, 21, 22, 23}) {
            byte[] row = packet.clone();
            row[at] ^= 1;
            is("byte " + at, row, 5);
        }
    }

    static void dataAreNotInTheHeadersSum() {
        byte[] row = GOOD.clone();
        row[22] ^= 1;
        is("byte 22", row, 13);
    }

    static void outcome5Of65535InPlaceOfZero() {
        // With identity 0 the header's numbers but for it add up to what its sum leaves; that much more makes it 0.
        byte[] bare = own().identity(0).bytes();
        byte[] row = own().identity((bare[10] & 255) << 8 | bare[11] & 255).bytes();
        Due.is("the sum", row[10] == 0 && row[11] == 0, true);
        is("sum 0", row, 13);
        row[10] = row[11] = -1;
        is("65535", row, 5);
    }

    static void outcome5ComesBefore6() {
        is("source 127 and another sum", wrongSum(own().from(Pack.ip(127, 0, 0, 1)).bytes()), 5);
    }

    static void outcome6OfASourceThatBeginsWith127() {
        is("126.255.255.255", own().from(Pack.ip(126, 255, 255, 255)), 13);
        is("127.0.0.0", own().from(Pack.ip(127, 0, 0, 0)), 6);
        is("127.255.255.255", own().from(Pack.ip(127, 255, 255, 255)), 6);
        is("128.0.0.0", own().from(Pack.ip(128, 0, 0, 0)), 13);
    }

    static void outcome6OfASourceThatBeginsAbove223() {
        is("223.255.255.255", own().from(Pack.ip(223, 255, 255, 255)), 13);
        is("224.0.0.0", own().from(Pack.ip(224, 0, 0, 0)), 6);
        is("240.0.0.1", own().from(Pack.ip(240, 0, 0, 1)), 6);
        is("255.255.255.255", own().from(-1), 6);
    }

    static void sourceZeroIsRight() {
        is("0.0.0.0", own().from(0), 13);
        is("0.0.0.1", own().from(1), 13);
    }

    static void sourceMayBeThePortsOwnAddress() {
        is("from the router to itself", own().from(Bench.HERE), 13);
    }

    private static void offset(int offset, int data, int outcome) {
        Bench bench = new Bench();
        Pack pack = Pack.to(Bench.WIDE).cut(0, offset).data(Pack.count(0, data));
        Due.is("offset " + offset + " and " + data + " bytes", bench.take(pack, 0), outcome);
        Due.is("with options too", bench.take(pack.options(1, 1, 1, 1, 1, 1, 1, 1), 0), outcome);
    }

    static void offsetAndDataUpTo65535AreRight() {
        offset(8191, 0, 25);
        offset(8191, 7, 25);
        offset(8190, 15, 25);
        offset(8131, 487, 25);
    }

    static void outcome6OfOffsetAndDataBeyond65535() {
        offset(8191, 8, 6);
        offset(8191, 9, 6);
        offset(8190, 16, 6);
        offset(8131, 488, 6);
    }

    static void outcome6OfAnOwnPieceBeyond65535() {
        is("up to 65535", own().cut(0, 8191).data(Pack.count(0, 7)), 10);
        is("up to 65536", own().cut(0, 8191).data(Pack.count(0, 8)), 6);
        is("up to 65536, with MORE", own().cut(Pack.MORE, 8191).data(Pack.count(0, 8)), 6);
    }

    static void outcome6ComesBefore7() {
        is("source 255 and wrong options", own().from(-1).options(7, 9, 9, 9), 6);
        is("too high an offset and wrong options", own().cut(0, 8191).options(7, 9, 9, 9).data(new byte[8]), 6);
    }

    static void portBelowZeroIsRefused() {
        Busy.noSuch("port -1", house -> house.receive(-1));
        Busy.noSuch("the lowest number", house -> house.receive(Integer.MIN_VALUE));
    }

    static void portAboveSevenIsRefused() {
        Busy.noSuch("port 8", house -> house.receive(8));
        Busy.noSuch("the highest number", house -> house.receive(Integer.MAX_VALUE));
    }

    static void portsZeroToSevenAreTaken() {
        for (int port = 0; port < 8; port++) {
            Bench bench = new Bench();
            Pack lost = Pack.to(Bench.LOST);
            Due.is("port " + port, bench.take(lost, port), 22);
            int from = port == 0 ? Bench.HERE : port == 1 ? Bench.THERE : 0;
            bench.outIs("error", Pack.error(0, from, lost.bytes(), 3, 0, 0), port, 0);
        }
    }

    static void tapeIsEmptyWhateverTheOutcome() {
        byte[][] rows = {
            new byte[3], new byte[30], changed(GOOD, 0, 0x44), changed(GOOD, 3, 0), wrongSum(GOOD),
            own().from(-1).bytes(), own().options(7, 0, 0, 0).bytes(),
            own().cut(Pack.MORE, 0).data(Pack.count(0, 8)).bytes(),
            own().protocol(1).data(Pack.control(8, 0, Pack.count(0, 4))).bytes(), own().protocol(1).bytes(),
            own().bytes(), own().protocol(9).bytes(), Pack.to(-1).bytes(), Pack.to(Bench.LOST).hops(1).bytes(),
            Pack.to(Bench.LOST).bytes(), Pack.to(Pack.ip(12, 1, 1, 1)).bytes(),
            Pack.to(Bench.NARROW).cut(Pack.UNCUT, 0).data(new byte[81]).bytes(), Pack.to(Bench.WIDE).bytes(),
            Pack.to(Bench.NARROW).data(new byte[81]).bytes(),
        };
        int[] outcomes = {1, 2, 3, 4, 5, 6, 7, 10, 11, 12, 13, 14, 20, 21, 22, 23, 24, 25, 26};
        for (int i = 0; i < rows.length; i++) {
            Bench bench = new Bench();
            bench.house.route(Pack.ip(12, 0, 0, 0), 8, 5, 0);
            bench.house.up(5, false);
            Due.is("outcome", bench.take(rows[i], 0), outcomes[i]);
            Due.is("tape after outcome " + outcomes[i], bench.house.about(10), 0);
            Due.is("received again", bench.house.receive(0), 1);
        }
    }
}
