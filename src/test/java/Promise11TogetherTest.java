/** receive: outcome 10, and what is put together. */
public final class Promise11TogetherTest {
    public static void main(String[] args) {
        Due.cases(Promise11TogetherTest.class);
    }

    private static Pack piece(int flags, int offset, byte[] data) {
        return Pack.to(Bench.HERE).identity(9).cut(flags, offset).data(data);
    }

    private static Pack more(int offset, int many) {
        return piece(Pack.MORE, offset, Pack.count(8 * offset, many));
    }

    private static Pack last(int offset, int many) {
        return piece(0, offset, Pack.count(8 * offset, many));
    }

    /** Outcome 10, nothing sent, and so many wait then. */
    private static void waits(Bench bench, String what, Pack pack, int waiting) {
        int tokens = bench.house.about(3);
        Due.is(what, bench.take(pack, 0), 10);
        bench.silent(what, tokens);
        Due.is(what + ": waiting", bench.house.about(2), waiting);
        Due.is(what + ": errors and answers", bench.house.about(4), 6 - tokens);
    }

    private static void kept(Pack one, Pack other) {
        Bench bench = new Bench();
        waits(bench, "the one", one, 1);
        waits(bench, "the other", other, 1);
    }

    /** The second is dropped with the first, but not with what waits for others. */
    private static void dropped(Pack one, Pack other) {
        Bench bench = new Bench();
        waits(bench, "what is older", more(0, 8).identity(8), 1);
        waits(bench, "the one", one, 2);
        waits(bench, "what is younger", more(0, 8).identity(10), 3);
        waits(bench, "the other", other, 2);
        Due.is("what is older", bench.take(last(1, 3).identity(8), 0), 13);
        Due.is("its data", bench.delivered(), Pack.count(0, 11));
        Due.is("what is younger", bench.take(last(1, 4).identity(10), 0), 13);
        Due.is("its data", bench.delivered(), Pack.count(0, 12));
        waits(bench, "what comes then begins anew", more(1, 8), 1);
        waits(bench, "and has nothing of those before", last(2, 1), 1);
    }

    /** Nothing waits for it, so that nothing goes with it, not even when four wait. */
    private static void droppedAlone(Pack wrong) {
        Bench bench = new Bench();
        waits(bench, "none waits", wrong, 0);
        for (int identity = 1; identity <= 4; identity++) {
            waits(bench, "one of four", more(0, 8).identity(identity), identity);
        }
        waits(bench, "wrong", wrong, 4);
        Due.is("the oldest is still there", bench.take(last(1, 1).identity(1), 0), 13);
    }

    private static void whole(Bench bench, Pack end, byte[] want) {
        Due.is("the whole", bench.take(end, 0), 13);
        Due.is("its data", bench.delivered(), want);
        Due.is("none waits", bench.house.about(2), 0);
    }

    static void piecesMayComeInAnyOrder() {
        byte[] data = Pack.count(0, 61);
        Pack[] pieces = {more(0, 24), more(3, 24), last(6, 13)};
        int[][] orders = {{0, 1, 2}, {0, 2, 1}, {1, 0, 2}, {1, 2, 0}, {2, 0, 1}, {2, 1, 0}};
        for (int[] order : orders) {
            Bench bench = new Bench();
            waits(bench, "first to come", pieces[order[0]], 1);
            waits(bench, "second to come", pieces[order[1]], 1);
            whole(bench, pieces[order[2]], data);
            Due.is("delivered", bench.house.about(6), 1);
            waits(bench, "a piece again", pieces[0], 1);
        }
    }

    static void pieceHasMoreOrAnOffset() {
        waits(new Bench(), "MORE alone", more(0, 8), 1);
        waits(new Bench(), "an offset alone", last(1, 8), 1);
        waits(new Bench(), "both", more(1, 8), 1);
        waits(new Bench(), "the highest bit of the offset, which is too far", last(4096, 8), 0);
        Due.is("neither", new Bench().take(last(0, 8), 0), 13);
    }

    static void wholeOneDoesNotTouchThePiecesOfItsKind() {
        Bench bench = new Bench();
        waits(bench, "piece", more(0, 8), 1);
        Due.is("whole of the same identity", bench.take(last(0, 30), 0), 13);
        Due.is("waiting", bench.house.about(2), 1);
        whole(bench, last(1, 3), Pack.count(0, 11));
    }

    static void otherSourceIsAnotherOne() {
        kept2(more(0, 8), last(1, 8).from(Pack.ip(10, 0, 0, 8)));
    }

    static void otherDestinationIsAnotherOne() {
        kept2(more(0, 8), Pack.to(Bench.THERE).identity(9).cut(0, 1).data(Pack.count(8, 8)));
    }

    static void otherIdentityIsAnotherOne() {
        kept2(more(0, 8), last(1, 8).identity(8));
        kept2(more(0, 8), last(1, 8).identity(9 + 256));
        kept2(more(0, 8), last(1, 8).identity(9 + 32768));
    }

    static void otherProtocolIsAnotherOne() {
        kept2(more(0, 8), last(1, 8).protocol(18));
        kept2(more(0, 8), last(1, 8).protocol(17 + 128));
    }

    private static void kept2(Pack one, Pack other) {
        Bench bench = new Bench();
        waits(bench, "the one", one, 1);
        waits(bench, "the other", other, 2);
        Due.is("the one's end", bench.take(last(1, 1), 0), 13);
        Due.is("the other waits", bench.house.about(2), 1);
    }

    static void nothingElseOfTheHeaderMakesAnother() {
        Bench bench = new Bench();
        waits(bench, "first", more(0, 8), 1);
        Pack end = last(1, 8).service(77).hops(3).options(1, 1, 1, 1).cut(0xc000, 1);
        Due.is("at another port too", bench.take(end, 5), 13);
        Due.is("data", bench.delivered(), Pack.count(0, 16));
    }

    static void fourMayWait() {
        Bench bench = new Bench();
        for (int identity = 1; identity <= 4; identity++) {
            waits(bench, "one of four", more(0, 8).identity(identity), identity);
        }
        for (int identity = 4; identity >= 1; identity--) {
            Due.is("each is there", bench.take(last(1, identity).identity(identity), 0), 13);
            Due.is("its data", bench.delivered(), Pack.count(0, 8 + identity));
        }
    }

    static void fifthLetsTheOldestGo() {
        Bench bench = new Bench();
        for (int identity = 1; identity <= 5; identity++) {
            waits(bench, "one of five", more(0, 8).identity(identity), Math.min(identity, 4));
        }
        waits(bench, "the oldest begins anew, and lets the second go", last(1, 1).identity(1), 4);
        for (int identity = 3; identity <= 5; identity++) {
            Due.is("still there", bench.take(last(1, identity).identity(identity), 0), 13);
            Due.is("its data", bench.delivered(), Pack.count(0, 8 + identity));
        }
    }

    static void oldestIsThatWhoseFirstPieceCameFirst() {
        Bench bench = new Bench();
        for (int identity = 1; identity <= 4; identity++) {
            waits(bench, "one of four", more(0, 8).identity(identity), identity);
        }
        bench.house.pass(3);
        waits(bench, "a later piece of the oldest", more(1, 8).identity(1), 4);
        waits(bench, "the fifth", more(0, 8).identity(5), 4);
        waits(bench, "the oldest is gone", last(2, 1).identity(1), 4);
    }

    static void fifthHasRoomWhenOneOfFourIsWhole() {
        Bench bench = new Bench();
        for (int identity = 1; identity <= 4; identity++) {
            waits(bench, "one of four", more(0, 8).identity(identity), identity);
        }
        Due.is("the third is whole", bench.take(last(1, 1).identity(3), 0), 13);
        waits(bench, "one more", more(0, 8).identity(5), 4);
        Due.is("the oldest is still there", bench.take(last(1, 1).identity(1), 0), 13);
    }

    static void pieceWithMoreThatIsNoMultipleOfEightIsDropped() {
        for (int many : new int[] {1, 7, 9, 15}) {
            dropped(more(0, 24), more(3, many));
            droppedAlone(more(0, many));
        }
    }

    static void lastPieceNeedNotBeAMultipleOfEight() {
        for (int many = 1; many <= 17; many++) {
            Bench bench = new Bench();
            waits(bench, "first", more(0, 8), 1);
            whole(bench, last(1, many), Pack.count(0, 8 + many));
        }
    }

    static void pieceWithoutDataIsDropped() {
        dropped(more(0, 24), more(3, 0));
        dropped(more(0, 24), last(3, 0));
        dropped(more(0, 24), more(0, 0));
        droppedAlone(more(0, 0));
        droppedAlone(last(1, 0));
        droppedAlone(last(8191, 0));
    }

    static void pieceUpTo4000BytesIsKept() {
        waits(new Bench(), "last", last(499, 8), 1);
        waits(new Bench(), "with MORE", more(499, 8), 1);
        waits(new Bench(), "long", last(260, 1920), 1);
    }

    static void pieceBeyond4000BytesIsDropped() {
        dropped(more(0, 24), last(499, 9));
        dropped(more(0, 24), last(500, 1));
        dropped(more(0, 24), more(500, 8));
        dropped(more(0, 24), more(499, 16));
        dropped(more(0, 24), last(8191, 7));
        droppedAlone(last(500, 1));
        droppedAlone(last(499, 9));
    }

    static void wholeMayHave4000Bytes() {
        byte[] data = Pack.count(9, 4000);
        for (int from = 0; from < 4000; from += 200) {
            Bench bench = new Bench();
            waits(bench, "last", piece(0, 260, Pack.part(data, 2080, 4000)), 1);
            waits(bench, "middle", piece(Pack.MORE, 130, Pack.part(data, 1040, 2080)), 1);
            Due.is("first", bench.take(piece(Pack.MORE, 0, Pack.part(data, 0, 1040)), 0), 13);
            Due.is("data", bench.house.about(9), 4000);
            for (int k = from; k < from + 200; k++) {
                Due.is("byte " + k, bench.house.data(k), data[k] & 255);
            }
            Due.is("none behind", bench.house.data(4000), RouteHouse.NONE);
        }
    }

    static void wholeMayHave4000BytesBehindTheLongestHeader() {
        int[] options = new int[40];
        java.util.Arrays.fill(options, 1);
        byte[] data = Pack.count(9, 4000);
        Bench bench = new Bench();
        waits(bench, "last", piece(0, 260, Pack.part(data, 2080, 4000)), 1);
        waits(bench, "middle", piece(Pack.MORE, 130, Pack.part(data, 1040, 2080)), 1);
        Due.is("first", bench.take(piece(Pack.MORE, 0, Pack.part(data, 0, 1040)).options(options), 0), 13);
        Due.is("data", bench.house.about(9), 4000);
        Due.is("first byte", bench.house.data(0), 9);
        Due.is("last byte", bench.house.data(3999), data[3999] & 255);
    }

    static void pieceUpToAKnownEndIsKept() {
        kept(last(2, 8), more(1, 8));
        kept(last(2, 8), more(1, 16));
        kept(last(2, 8), more(2, 8));
    }

    static void pieceBeyondAKnownEndIsDropped() {
        dropped(last(2, 8), more(2, 16));
        dropped(last(2, 8), more(3, 8));
        dropped(last(2, 7), more(2, 8));
        dropped(last(2, 8), more(0, 32));
    }

    static void pieceWithMoreUpToTheEndMakesItWhole() {
        Bench bench = new Bench();
        waits(bench, "end", last(2, 8), 1);
        whole(bench, more(0, 24), Pack.count(0, 24));
    }

    static void lastPieceUpToWhereOthersGoIsKept() {
        kept(more(1, 16), last(2, 8));
        kept(more(1, 16), last(2, 9));
        kept(more(1, 16), last(3, 1));
        kept(more(1, 16), last(9, 1));
    }

    static void lastPieceNotUpToWhereOthersGoIsDropped() {
        dropped(more(1, 16), last(2, 7));
        dropped(more(1, 16), last(1, 1));
        dropped(more(0, 24), last(1, 15));
    }

    static void sameEndAgainIsKept() {
        kept(last(2, 8), last(2, 8));
        kept(last(2, 8), last(1, 16));
        kept(last(1, 9), last(2, 1));
    }

    static void laterEndIsDropped() {
        dropped(last(2, 8), last(2, 9));
        dropped(last(2, 8), last(3, 1));
    }

    static void earlierEndIsDropped() {
        dropped(last(2, 8), last(2, 7));
        dropped(last(3, 8), last(2, 8));
    }

    static void whatWasDroppedMayComeAgain() {
        Bench bench = new Bench();
        waits(bench, "first", more(0, 16), 1);
        waits(bench, "wrong", more(2, 7), 0);
        waits(bench, "end", last(2, 5), 1);
        whole(bench, more(0, 16), Pack.count(0, 21));
    }

    static void knownEndIsForgottenWithWhatWasDropped() {
        Bench bench = new Bench();
        waits(bench, "end", last(1, 8), 1);
        waits(bench, "beyond it", more(2, 8), 0);
        waits(bench, "beyond it again", more(2, 8), 1);
        waits(bench, "another end", last(3, 1), 1);
        whole(bench, more(0, 16), Pack.count(0, 25));
    }

    static void bytesThatComeTwiceAreThoseThatCameLater() {
        Bench bench = new Bench();
        waits(bench, "first", piece(Pack.MORE, 0, Pack.count(0, 24)), 1);
        waits(bench, "over its end", piece(Pack.MORE, 2, Pack.count(100, 16)), 1);
        waits(bench, "over its beginning", piece(Pack.MORE, 0, Pack.count(50, 8)), 1);
        byte[] want = Pack.join(Pack.count(50, 8), Pack.count(8, 8), Pack.count(100, 8), Pack.count(200, 11));
        whole(bench, piece(0, 3, Pack.count(200, 11)), want);
    }

    static void bytesOfTheSamePieceAgainAreTheLaterOnes() {
        Bench bench = new Bench();
        waits(bench, "end", piece(0, 1, Pack.count(100, 5)), 1);
        waits(bench, "end again", piece(0, 1, Pack.count(200, 5)), 1);
        whole(bench, more(0, 8), Pack.join(Pack.count(0, 8), Pack.count(200, 5)));
    }

    static void bytesThatComeTwiceFillNoGap() {
        Bench bench = new Bench();
        waits(bench, "first", more(0, 8), 1);
        waits(bench, "first again", more(0, 8), 1);
        waits(bench, "end", last(2, 8), 1);
        waits(bench, "end again", last(2, 8), 1);
        whole(bench, more(1, 8), Pack.count(0, 24));
    }

    static void gapOfOneUnitIsWaitedFor() {
        for (int gap = 0; gap < 4; gap++) {
            Bench bench = new Bench();
            for (int unit = 0; unit < 4; unit++) {
                if (unit != gap) {
                    waits(bench, "unit " + unit, unit == 3 ? last(3, 5) : more(unit, 8), 1);
                }
            }
            whole(bench, gap == 3 ? last(3, 5) : more(gap, 8), Pack.count(0, 29));
        }
    }

    static void endIsWaitedFor() {
        Bench bench = new Bench();
        waits(bench, "first", more(0, 16), 1);
        waits(bench, "middle", more(2, 16), 1);
        whole(bench, last(4, 1), Pack.count(0, 33));
    }

    static void endInsideOfWhatIsThereMakesItWhole() {
        Bench bench = new Bench();
        waits(bench, "all of it, with MORE", more(0, 24), 1);
        whole(bench, last(2, 8), Pack.count(0, 24));
    }

    static void wholesHaveTheHeaderOfTheLatestPieceWithOffsetZero() {
        Bench bench = new Bench();
        Pack early = more(0, 8).protocol(50).service(1).options(1, 1, 1, 1);
        Pack later = piece(0xe000, 0, Pack.count(30, 8)).protocol(50).service(2).options(7, 4, 1, 1).hops(9);
        waits(bench, "end", last(2, 5).protocol(50).service(3), 1);
        waits(bench, "beginning", early, 1);
        waits(bench, "beginning again", later, 1);
        Due.is("middle", bench.take(more(1, 8).protocol(50).service(4), 0), 14);
        // Without MORE, but with bit 15 and UNCUT as they came.
        byte[] about = later.cut(0xc000, 0).data(Pack.join(Pack.count(30, 8), Pack.count(8, 13))).bytes();
        bench.outIs("error about the whole", Pack.error(0, Bench.HERE, about, 3, 2, 0), 0, 0);
    }

    static void wholesHeaderMayGrowShorterOrLonger() {
        for (boolean isLonger : new boolean[] {true, false}) {
            Bench bench = new Bench();
            Pack bare = more(0, 16).protocol(50);
            Pack full = more(0, 16).protocol(50).options(1, 1, 1, 1, 1, 1, 1, 0);
            waits(bench, "one", isLonger ? bare : full, 1);
            waits(bench, "other", isLonger ? full : bare, 1);
            Due.is("end", bench.take(last(2, 5).protocol(50), 0), 14);
            byte[] about = (isLonger ? full : bare).cut(0, 0).data(Pack.count(0, 21)).bytes();
            bench.outIs("error about the whole", Pack.error(0, Bench.HERE, about, 3, 2, 0), 0, 0);
        }
    }

    static void errorAboutAWholeGoesOutWhereItsLastPieceCame() {
        for (int port = 0; port < 3; port++) {
            Bench bench = new Bench();
            bench.take(last(2, 5).protocol(50), (port + 1) % 3);
            bench.take(more(0, 8).protocol(50), (port + 2) % 3);
            Due.is("outcome", bench.take(more(1, 8).protocol(50), port), 14);
            byte[] about = last(0, 21).protocol(50).bytes();
            int from = port == 0 ? Bench.HERE : port == 1 ? Bench.THERE : 0;
            bench.outIs("error", Pack.error(0, from, about, 3, 2, 0), port, 0);
        }
    }

    static void errorAboutAWholeNeedsThatPortUp() {
        Bench bench = new Bench();
        bench.take(more(0, 8).protocol(50), 0);
        bench.house.up(1, false);
        Due.is("outcome", bench.take(last(1, 8).protocol(50), 1), 14);
        bench.silent("down", 6);
        bench.house.up(0, false);
        bench.house.up(1, true);
        bench.take(more(0, 8).protocol(50), 0);
        Due.is("outcome", bench.take(last(1, 8).protocol(50), 1), 14);
        Due.is("packets", bench.house.about(1), 1);
    }

    static void wholeRequestIsAnswered() {
        Bench bench = new Bench();
        byte[] request = Pack.control(8, 0, Pack.count(1, 40));
        byte[] answer = Pack.control(0, 0, Pack.count(1, 40));
        Pack piece = Pack.to(Bench.HERE).protocol(1).identity(3).service(5);
        Due.is("end", bench.take(piece.cut(0, 2).data(Pack.part(request, 16, 44)), 0), 10);
        Due.is("beginning", bench.take(piece.cut(Pack.MORE, 0).data(Pack.part(request, 0, 16)), 2), 11);
        Pack want = Pack.to(Bench.PEER).from(Bench.HERE).identity(0).protocol(1).data(answer);
        bench.outIs("answer where the last piece came", want.bytes(), 2, 0);
    }

    static void wholeOfProtocol1MayBeNoRequest() {
        Bench bench = new Bench();
        byte[] data = Pack.control(8, 0, Pack.count(1, 12));
        data[15]++;
        Pack piece = Pack.to(Bench.HERE).protocol(1).identity(3);
        Due.is("beginning", bench.take(piece.cut(Pack.MORE, 0).data(Pack.part(data, 0, 8)), 0), 10);
        Due.is("another sum", bench.take(piece.cut(0, 1).data(Pack.part(data, 8, 16)), 0), 12);
        bench.silent("another sum", 6);
        Due.is("none waits", bench.house.about(2), 0);
    }

    static void piecesFromSourceZeroArePutTogether() {
        Bench bench = new Bench();
        waits(bench, "first", more(0, 8).from(0), 1);
        whole(bench, last(1, 2).from(0), Pack.count(0, 10));
        Due.is("source", bench.house.about(7), 0);
    }

    static void bytesBeyondTheLengthOfAPieceAreNotKept() {
        Bench bench = new Bench();
        Due.is("first", bench.take(Pack.join(more(0, 8).bytes(), Pack.count(99, 30)), 0), 10);
        whole(bench, last(1, 2), Pack.count(0, 10));
    }

    static void optionsOfAPieceAreNoData() {
        Bench bench = new Bench();
        waits(bench, "first", more(0, 8).options(7, 4, 9, 9), 1);
        whole(bench, last(1, 2).options(130, 4, 9, 9), Pack.count(0, 10));
    }

    static void addressThatIsOwnNoMoreLeavesItsPiecesWaiting() {
        Bench bench = new Bench();
        waits(bench, "first", more(0, 8), 1);
        bench.house.port(0, 0, 1500);
        Due.is("sent on, if there were a route", bench.take(last(1, 2), 0), 22);
        Due.is("waiting", bench.house.about(2), 1);
        bench.house.port(0, Bench.HERE, 1500);
        whole(bench, last(1, 2), Pack.count(0, 10));
    }
}
