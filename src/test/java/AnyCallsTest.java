import java.util.Random;

/** No call throws, whatever its arguments; and the same calls give the same answers. */
public final class AnyCallsTest {
    private static final Due DUE = new Due();
    private static final int[] EDGES = {
        Integer.MIN_VALUE, -1, 0, 1, 2, 3, 4, 5, 7, 8, 9, 20, 21, 64, 127, 128, 255, 256, 3000, Integer.MAX_VALUE
    };

    public static void main(String[] args) {
        for (int seed = 0; seed < 40; seed++) {
            long first = answers(seed, 3000);
            DUE.is("answers of seed " + seed, answers(seed, 3000), first);
        }
        DUE.finish();
    }

    private static long answers(int seed, int calls) {
        Random random = new Random(seed);
        TransportFour x = new TransportFour();
        long mixed = 0;
        for (int i = 0; i < calls; i++) {
            mixed = mixed * 31 + answer(x, random);
        }
        return mixed;
    }

    private static int any(Random random) {
        return EDGES[random.nextInt(EDGES.length)];
    }

    private static int end(Random random) {
        return random.nextInt(20) == 0 ? any(random) : random.nextInt(2);
    }

    private static int answer(TransportFour x, Random random) {
        switch (random.nextInt(16)) {
            case 0:
                return x.call(end(random));
            case 1:
                return x.type(random.nextLong(), any(random));
            case 2:
                return x.type(random.nextLong(), 8);
            case 3:
            case 4:
                return x.send(end(random));
            case 5:
                return x.urge(end(random), any(random));
            case 6:
                return random.nextInt(10) == 0 ? x.end(end(random)) : x.sent();
            case 7:
                return x.take(end(random));
            case 8:
                return x.read(end(random), any(random));
            case 9:
                return x.urgent(end(random));
            case 10:
                return x.fault(any(random), x.sent() + random.nextInt(9), any(random), any(random));
            case 11:
            case 12:
                return x.tick(random.nextInt(8) == 0 ? any(random) : 1 + random.nextInt(3));
            case 13:
                return x.told(end(random), any(random));
            case 14:
                return x.byteOf(x.sent() - 1 - random.nextInt(70), any(random));
            default:
                return x.clock();
        }
    }
}
