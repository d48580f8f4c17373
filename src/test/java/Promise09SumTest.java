import java.util.Arrays;

/** sum: the tape's bytes 10 and 11 become the sum of a header. */
public final class Promise09SumTest {
    public static void main(String[] args) {
        for (int words = 5; words <= 15; words++) {
            sumsWords(words);
        }
        for (int identity : new int[] {0, 1, 0x1234, 0xffff, identityForSum(0), identityForSum(1), identityForSum(0xfffe)}) {
            quotedSum(strange(identity));
        }
        // Among these is one whose sum goes beyond 16 bits a second time.
        for (int identity = 0x9080; identity < 0x9090; identity++) {
            quotedSum(strange(identity).from(0xdfffffff));
        }
        otherSumsAreWrong();
        wrongNumbers();
        Due.close();
    }

    private static void sumsWords(int words) {
        Bench bench = new Bench();
        Pack pack = Pack.to(Bench.HERE).identity(0xabcd).data(Pack.count(5, 50));
        pack.options = new byte[words * 4 - 20];
        Arrays.fill(pack.options, (byte) 1);
        byte[] packet = pack.bytes();
        packet[10] = 9;
        packet[11] = 99;
        bench.lay(packet);
        Due.is("a wrong sum", bench.house.receive(0), 5);
        bench.lay(packet);
        bench.house.sum(words);
        Due.is("the right one of " + words, bench.house.receive(0), 13);
    }

    private static Pack strange(int identity) {
        return Pack.to(Bench.HERE).protocol(99).identity(identity);
    }

    /** The identity with which the packet has this sum. */
    private static int identityForSum(int sum) {
        for (int identity = 0; identity < 65536; identity++) {
            byte[] row = strange(identity).bytes();
            if (((row[10] & 255) << 8 | row[11] & 255) == sum) {
                return identity;
            }
        }
        throw new IllegalStateException("no identity has this sum");
    }

    /** An error quotes the header as it came, so that the sum can be read. */
    private static void quotedSum(Pack pack) {
        Bench bench = new Bench();
        byte[] packet = pack.bytes();
        byte[] other = packet.clone();
        other[10] = 77;
        other[11] = 78;
        bench.lay(other);
        bench.house.sum(5);
        Due.is("taken", bench.house.receive(0), 14);
        Due.is("sum of identity " + pack.identity, Pack.part(bench.outRow(0), 28, 48), packet);
    }

    private static void otherSumsAreWrong() {
        Bench bench = new Bench();
        byte[] packet = strange(identityForSum(0)).bytes();
        packet[10] = packet[11] = (byte) 255;
        Due.is("65535 is not 0", bench.take(packet, 0), 5);
    }

    private static void wrongNumbers() {
        RouteHouse house = new RouteHouse();
        Due.badNumber("empty tape", () -> house.sum(5));
        for (int i = 0; i < 4; i++) {
            house.feed(1, 2, 3, 4, 5);
        }
        Due.badNumber("4 words", () -> house.sum(4));
        Due.badNumber("16 words", () -> house.sum(16));
        Due.badNumber("negative words", () -> house.sum(-5));
        Due.badNumber("words beyond all numbers", () -> house.sum(1 << 30));
        house.sum(15);
        house.end(59);
        Due.badNumber("less than 15 words", () -> house.sum(15));
        house.sum(14);
        house.end(20);
        Due.badNumber("less than 6 words", () -> house.sum(6));
        house.sum(5);
        house.end(19);
        Due.badNumber("less than 5 words", () -> house.sum(5));
        Due.is("the tape keeps its length", house.about(10), 19);
    }
}
