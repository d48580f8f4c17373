import java.util.Random;
import java.util.function.LongSupplier;
import java.util.function.ToLongFunction;

/** Random runs of at most 512 calls, each answer compared with that of the model; the seeds are fixed. */
public final class ModelTest {
    private static final int RUNS = 3000;
    private static final int CALLS = 512;
    private static final int[] OWN = {Bench.HERE, Bench.THERE, Pack.ip(192, 0, 2, 1)};
    private static final int[] FAR = {Bench.WIDE, Bench.NARROW, Bench.LOST, Pack.ip(10, 9, 200, 3), -1, 1, 0x7f000001};
    private static final int[] NEAR = {Bench.PEER, Pack.ip(10, 0, 0, 8), 0, 1, 0x7f000001, 0xe0000001};
    private static final int[] MTUS = {100, 101, 107, 108, 140, 576, 1500};

    private final Random random;
    private final int run;
    private final RouteHouse house = new RouteHouse();
    private final Model model = new Model();
    private int calls = 0;

    private ModelTest(int run) {
        this.run = run;
        random = new Random(run);
    }

    public static void main(String[] args) {
        int[] outcomes = new int[27];
        for (int run = 0; run < RUNS; run++) {
            new ModelTest(run).play(outcomes);
        }
        for (int outcome = 1; outcome <= 26; outcome++) {
            boolean isOne = outcome <= 7 || outcome >= 10 && outcome <= 14 || outcome >= 20;
            Due.is("outcome " + outcome + " came in some run", outcomes[outcome] > 0, isOne);
        }
        Due.close();
    }

    private void play(int[] outcomes) {
        boolean isTogether = random.nextInt(3) == 0;
        for (int i = 0; i < 3; i++) {
            setPort(i, pick(OWN), pick(MTUS));
        }
        setRoute(Pack.ip(10, 9, 0, 0), 16, 1, Bench.GATE);
        setRoute(Pack.ip(10, 9, 9, 0), 24, 2, 0);
        while (calls < CALLS) {
            int kind = random.nextInt(20);
            if (kind < 14) {
                byte[] row = isTogether ? piece() : packet();
                lay(row);
                int port = random.nextInt(random.nextInt(10) == 0 ? 10 : 3) - random.nextInt(50) / 49;
                long outcome = both("receive(" + port + ")", () -> house.receive(port), () -> model.receive(port));
                if (outcome > 0 && outcome < outcomes.length) {
                    outcomes[(int) outcome]++;
                }
                look();
            } else {
                other(kind);
            }
        }
    }

    private void other(int kind) {
        int a = random.nextInt(12) - 1;
        switch (kind) {
            case 14:
                int mtu = random.nextInt(8) == 0 ? 90 + random.nextInt(20) : pick(MTUS);
                setPort(a, random.nextInt(4) == 0 ? 0 : pick(OWN), mtu);
                break;
            case 15:
                boolean up = random.nextInt(3) > 0;
                both("up(" + a + ")", () -> house.up(a, up) ? 1 : 0, () -> model.up(a, up));
                break;
            case 16:
                setRoute(pick(FAR), random.nextInt(36) - 1, a, random.nextBoolean() ? 0 : random.nextInt());
                break;
            case 17:
                int bits = random.nextInt(36) - 1;
                int address = pick(FAR);
                both("unroute", () -> house.unroute(address, bits) ? 1 : 0, () -> model.unroute(address, bits));
                both("lookup", () -> house.lookup(address, a), () -> model.lookup(address, a));
                break;
            case 18:
                int n = random.nextInt(5) == 0 ? random.nextInt(110) - 4 : random.nextInt(20);
                both("pass(" + n + ")", () -> house.pass(n), () -> model.pass(n));
                look();
                break;
            default:
                both("copy(" + a + ")", () -> house.copy(a), () -> model.copy(a));
                both("receive", () -> house.receive(1), () -> model.receive(1));
                look();
                break;
        }
    }

    private void setPort(int port, int address, int mtu) {
        both("port", () -> {
            house.port(port, address, mtu);
            return 0;
        }, () -> model.port(port, address, mtu));
    }

    private void setRoute(int address, int bits, int port, int next) {
        both("route", () -> house.route(address, bits, port, next), () -> model.route(address, bits, port, next));
    }

    private void look() {
        int what = random.nextInt(13) - 1;
        both("about(" + what + ")", () -> house.about(what), () -> model.about(what));
        long many = both("about(1)", () -> house.about(1), () -> model.about(1));
        for (int j = 0; j < 12; j++) {
            int i = many > 0 ? random.nextInt((int) many) : random.nextInt(20) / 19;
            int k = random.nextInt(random.nextBoolean() ? 40 : 101);
            int w = random.nextInt(13) / 4;
            switch (random.nextInt(4)) {
                case 0:
                    both("sent(" + i + ", " + w + ")", () -> house.sent(i, w), () -> model.sent(i, w));
                    break;
                case 1:
                    int far = random.nextInt(4000);
                    both("data(" + far % 50 + ")", () -> house.data(far % 50), () -> model.data(far % 50));
                    both("data(" + far + ")", () -> house.data(far), () -> model.data(far));
                    break;
                default:
                    both("out(" + i + ", " + k + ")", () -> house.out(i, k), () -> model.out(i, k));
                    break;
            }
            if (many == 0 && j == 1) {
                return;
            }
        }
    }

    private byte[] packet() {
        Pack pack = Pack.to(random.nextInt(3) == 0 ? pick(OWN) : pick(FAR)).from(pick(NEAR));
        pack.service(random.nextInt(256)).identity(random.nextInt(3)).hops(random.nextInt(8) == 0 ? random.nextInt(3) : 64);
        pack.protocol(pick(new int[] {1, 1, 17, 17, 50, 255}));
        int flags = random.nextInt(3) == 0 ? random.nextInt(8) << 13 : 0;
        pack.cut(flags, random.nextInt(5) == 0 ? random.nextInt(random.nextBoolean() ? 8 : 8192) : 0);
        if (random.nextInt(3) == 0) {
            pack.options = options();
        }
        int many = random.nextInt(random.nextInt(3) == 0 ? 400 : 30);
        byte[] data = new byte[many];
        random.nextBytes(data);
        pack.data(data);
        if (pack.protocol == 1 && many > 4 && random.nextInt(4) > 0) {
            pack.data(Pack.control(pick(new int[] {0, 8, 8, 8, 3}), random.nextInt(2), Pack.part(data, 4, many)));
        }
        return spoiled(pack.bytes());
    }

    private byte[] options() {
        byte[] row = new byte[4 * (1 + random.nextInt(10))];
        int at = 0;
        while (at < row.length) {
            int size = 2 + random.nextInt(5);
            if (random.nextInt(3) == 0) {
                row[at++] = (byte) (random.nextInt(6) > 0 ? 1 : 0);
            } else if (at + size <= row.length || random.nextInt(8) == 0) {
                row[at] = (byte) random.nextInt(256);
                if (at + 1 < row.length) {
                    row[at + 1] = (byte) (random.nextInt(20) == 0 ? random.nextInt(4) : size);
                }
                at += size;
            } else {
                row[at++] = 1;
            }
        }
        return row;
    }

    /** Now and then a byte that is wrong, bytes that are missing, or bytes too many. */
    private byte[] spoiled(byte[] row) {
        int kind = random.nextInt(30);
        if (kind == 0) {
            row[random.nextInt(20)] ^= (byte) (1 << random.nextInt(8));
        } else if (kind == 1) {
            return Pack.part(row, 0, random.nextInt(row.length));
        } else if (kind == 2) {
            return Pack.join(row, new byte[random.nextInt(20)]);
        } else if (kind == 3) {
            row[random.nextInt(4)] = (byte) random.nextInt(256);
            Pack.put(row, 10, 2, 0);
            Pack.put(row, 10, 2, Pack.sum(Pack.part(row, 0, Math.min(row.length, (row[0] & 15) * 4))));
        }
        return row;
    }

    /** Pieces of few and short packets, so that they often meet. */
    private byte[] piece() {
        int identity = random.nextInt(6);
        int protocol = pick(new int[] {1, 17, 17, 50});
        int units = 2 + identity;
        byte[] data = Pack.control(8, 0, Pack.count(identity, units * 8 - 7));
        int from = random.nextInt(units);
        int to = Math.min(units, from + 1 + random.nextInt(3));
        boolean isLast = to == units;
        Pack pack = Pack.to(OWN[random.nextInt(12) / 11]).protocol(protocol).identity(identity);
        pack.hops(random.nextInt(256)).from(random.nextInt(20) == 0 ? 0 : Bench.PEER);
        pack.cut((random.nextInt(4) == 0 ? 0xc000 : 0) | (isLast ? 0 : Pack.MORE), from);
        pack.data(Pack.part(data, from * 8, isLast ? data.length : to * 8));
        if (random.nextInt(4) == 0) {
            pack.options = options();
        }
        int wrong = random.nextInt(60);
        if (wrong == 0) {
            pack.data(Pack.count(0, random.nextInt(40)));
        } else if (wrong == 1) {
            pack.cut ^= Pack.MORE;
        } else if (wrong == 2) {
            pack.cut(pack.cut & 0xe000, pick(new int[] {0, 1, 498, 499, 500, 8191}));
        }
        return spoiled(pack.bytes());
    }

    private void lay(byte[] row) {
        int kept = random.nextInt(40) == 0 ? 20 : 0;
        both("end", () -> {
            house.end(kept);
            return 0;
        }, () -> model.end(kept));
        for (int at = 0; at < row.length; at += 20) {
            int[] five = new int[5];
            for (int i = 0; i < 20; i++) {
                five[i / 4] = five[i / 4] << 8 | (at + i < row.length ? row[at + i] & 255 : 0);
            }
            both("feed", () -> house.feed(five[0], five[1], five[2], five[3], five[4]), () -> model.feed(five));
        }
        both("end", () -> {
            house.end(row.length);
            return 0;
        }, () -> model.end(row.length));
        int words = random.nextInt(20) == 0 ? random.nextInt(18) : 0;
        if (words > 0) {
            both("sum", () -> {
                house.sum(words);
                return 0;
            }, () -> model.sum(words));
        }
    }

    private int pick(int[] numbers) {
        return numbers[random.nextInt(numbers.length)];
    }

    private long both(String what, LongSupplier one, LongSupplier other) {
        if (calls >= CALLS) {
            return 0;
        }
        calls++;
        ToLongFunction<LongSupplier> answer = call -> {
            try {
                return call.getAsLong();
            } catch (IllegalStateException e) {
                return Long.MIN_VALUE;
            } catch (IllegalArgumentException e) {
                return Long.MIN_VALUE + 1;
            } catch (UnsupportedOperationException e) {
                return Long.MIN_VALUE + 2;
            } catch (IndexOutOfBoundsException e) {
                boolean isOwn = e.getClass() == IndexOutOfBoundsException.class;
                return Long.MIN_VALUE + (isOwn ? 3 : 4);
            }
        };
        long got = answer.applyAsLong(one);
        Due.is("run " + run + ", call " + calls + ": " + what, got, answer.applyAsLong(other));
        return got;
    }
}
