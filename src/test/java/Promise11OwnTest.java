/** receive: outcomes 11 to 14 for what is the router's own and whole. */
public final class Promise11OwnTest {
    public static void main(String[] args) {
        Due.cases(Promise11OwnTest.class);
    }

    private static Pack control(byte[] data) {
        return Pack.to(Bench.HERE).protocol(1).data(data);
    }

    private static void outcome12(String what, byte[] data) {
        Bench bench = new Bench();
        Due.is(what, bench.take(control(data), 0), 12);
        bench.silent(what, 6);
        Due.is(what + ": errors and answers", bench.house.about(4), 0);
        Due.is(what + ": delivered", bench.house.about(6), 0);
    }

    private static void outcome11(String what, byte[] data) {
        Bench bench = new Bench();
        Due.is(what, bench.take(control(data), 0), 11);
        Due.is(what + ": answers", bench.house.about(4), 1);
    }

    static void addressOfEachPortIsOwnAtEachPort() {
        for (int owner = 0; owner < 8; owner++) {
            for (int port = 0; port < 8; port++) {
                Bench bench = Bench.bare();
                bench.house.port(owner, Bench.HERE, 100);
                Due.is("of " + owner + " at " + port, bench.take(Pack.to(Bench.HERE), port), 13);
            }
        }
    }

    static void addressBesideAnOwnOneIsNotOwn() {
        Bench bench = new Bench();
        Due.is("one more", bench.take(Pack.to(Bench.HERE + 1), 0), 22);
        Due.is("one less", bench.take(Pack.to(Bench.HERE - 1), 0), 22);
    }

    static void ownAddressMayBeginWithAnyByte() {
        for (int first : new int[] {0, 127, 224, 255}) {
            Bench bench = new Bench();
            bench.house.port(6, Pack.ip(first, 0, 0, 5), 100);
            Due.is("first byte " + first, bench.take(Pack.to(Pack.ip(first, 0, 0, 5)), 0), 13);
        }
    }

    static void ownComesBeforeARoute() {
        Bench bench = new Bench();
        bench.house.route(Bench.HERE, 32, 1, 0);
        Due.is("own", bench.take(Pack.to(Bench.HERE), 0), 13);
    }

    static void hopsOfAnOwnOneAreNotLookedAt() {
        Bench bench = new Bench();
        Due.is("0", bench.take(Pack.to(Bench.HERE).hops(0), 0), 13);
        Due.is("1", bench.take(Pack.to(Bench.HERE).hops(1), 0), 13);
    }

    static void lengthOfAnOwnOneIsNotHeldAgainstAnMtu() {
        Bench bench = new Bench();
        Pack pack = Pack.to(Bench.THERE).cut(Pack.UNCUT, 0).data(Pack.count(0, 1980));
        Due.is("2000 bytes at an mtu of 100", bench.take(pack, 1), 13);
        Due.is("data", bench.house.about(9), 1980);
    }

    static void uncutAndBit15DoNotMakeAPiece() {
        Bench bench = new Bench();
        Due.is("uncut", bench.take(Pack.to(Bench.HERE).cut(Pack.UNCUT, 0), 0), 13);
        Due.is("bit 15", bench.take(Pack.to(Bench.HERE).cut(0x8000, 0), 0), 13);
        Due.is("both", bench.take(Pack.to(Bench.HERE).cut(0xc000, 0), 0), 13);
    }

    static void requestOf8BytesIsAnswered() {
        outcome11("8 bytes", Pack.control(8, 0, Pack.count(1, 4)));
        outcome11("9 bytes", Pack.control(8, 0, Pack.count(1, 5)));
    }

    static void outcome12OfLessThan8Bytes() {
        for (int rest = 0; rest < 4; rest++) {
            outcome12(4 + rest + " bytes", Pack.control(8, 0, Pack.count(1, rest)));
        }
        outcome12("3 bytes", Pack.row(8, 0, 0xf7));
        outcome12("1 byte", Pack.row(8));
    }

    static void outcome12OfNoData() {
        outcome12("none", new byte[0]);
    }

    static void outcome12OfEachOtherFirstByte() {
        for (int type = 0; type < 256; type++) {
            if (type != 8) {
                outcome12("type " + type, Pack.control(type, 0, Pack.count(1, 8)));
            }
        }
    }

    static void outcome12OfAnotherSum() {
        byte[] data = Pack.control(8, 0, Pack.count(1, 9));
        for (int at = 1; at < data.length; at++) {
            byte[] row = data.clone();
            row[at] ^= 1;
            outcome12("byte " + at, row);
        }
    }

    static void sumOfAnOddNumberOfBytesHasZeroBehindTheLast() {
        // 0800 + 0000 + 0000 + 0102 + ff00 = 10802, which is 0803.
        outcome11("nine bytes", Pack.row(8, 0, 0xf7, 0xfc, 0, 0, 1, 2, 0xff));
        outcome12("as if 0 stood before it", Pack.row(8, 0, 0xf5, 0xfe, 0, 0, 1, 2, 0xff));
    }

    static void bytesBeyondTheLengthAreNotInTheSum() {
        Bench bench = new Bench();
        byte[] packet = control(Pack.control(8, 0, Pack.count(1, 5))).bytes();
        Due.is("more came", bench.take(Pack.join(packet, Pack.count(9, 9)), 0), 11);
    }

    static void sumZeroIsNot65535() {
        // 0800 and f7ff are 65535, all of whose bits turned are 0.
        outcome11("0", Pack.row(8, 0, 0, 0, 0xf7, 0xff, 0, 0));
        outcome12("65535", Pack.row(8, 0, 255, 255, 0xf7, 0xff, 0, 0));
    }

    static void codeOfARequestIsNotLookedAt() {
        outcome11("code 255", Pack.control(8, 255, Pack.count(1, 4)));
    }

    static void outcome13IsProtocol17Alone() {
        Bench bench = new Bench();
        Due.is("16", bench.take(Pack.to(Bench.HERE).protocol(16), 0), 14);
        Due.is("17", bench.take(Pack.to(Bench.HERE).protocol(17), 0), 13);
        Due.is("18", bench.take(Pack.to(Bench.HERE).protocol(18), 0), 14);
        Due.is("delivered", bench.house.about(6), 1);
    }

    static void deliveredAreSourceDestinationAndData() {
        Bench bench = new Bench();
        int source = Pack.ip(200, 2, 3, 4);
        Pack pack = Pack.to(Bench.THERE).from(source).options(1, 1, 1, 1).data(Pack.count(7, 70));
        Due.is("outcome", bench.take(pack, 6), 13);
        bench.silent("delivered", 6);
        Due.is("source", bench.house.about(7), source);
        Due.is("destination", bench.house.about(8), Bench.THERE);
        Due.is("data", bench.delivered(), Pack.count(7, 70));
    }

    static void deliveredMayHaveNoData() {
        Bench bench = new Bench();
        bench.take(Pack.to(Bench.HERE).data(1, 2, 3), 0);
        Due.is("outcome", bench.take(Pack.to(Bench.THERE), 0), 13);
        Due.is("delivered", bench.house.about(6), 2);
        Due.is("destination", bench.house.about(8), Bench.THERE);
        Due.is("data", bench.house.about(9), 0);
        Due.is("first byte", bench.house.data(0), RouteHouse.NONE);
    }

    static void outcome14OfEachOtherProtocol() {
        for (int protocol = 0; protocol < 256; protocol++) {
            if (protocol != 1 && protocol != 17) {
                Bench bench = new Bench();
                byte[] packet = Pack.to(Bench.HERE).protocol(protocol).data(Pack.count(1, 12)).bytes();
                Due.is("protocol " + protocol, bench.take(packet, 1), 14);
                bench.outIs("protocol " + protocol, Pack.error(0, Bench.THERE, packet, 3, 2, 0), 1, 0);
                Due.is("delivered", bench.house.about(6), 0);
            }
        }
    }

    static void outcome14AtAPortThatIsDown() {
        Bench bench = new Bench();
        bench.house.up(0, false);
        Due.is("down", bench.take(Pack.to(Bench.HERE).protocol(6), 0), 14);
        bench.silent("down", 6);
    }
}
