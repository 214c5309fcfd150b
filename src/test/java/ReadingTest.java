import java.util.Random;

/** Runs of 512 calls, made up from a seed, must be answered as the second reading of the document answers them. */
public final class ReadingTest {
    private static final Due DUE = new Due();
    private static final int RUNS = 3000;
    private static final int CALLS = 512;

    private final Random random;
    private final TransportFour x = new TransportFour();
    private final Reading y = new Reading();
    private final int faultsInTen;
    private final int looksInTen;
    private final int longTicksInTen;
    /** Ends nothing and sends much, so that numbers go round. */
    private final boolean isBusy;
    private String call;

    private ReadingTest(int seed) {
        // Seeds that lie close to one another would begin with almost the same numbers.
        random = new Random(seed * 0x9E3779B97F4A7C15L);
        isBusy = random.nextInt(4) == 0;
        faultsInTen = random.nextInt(4);
        looksInTen = isBusy ? 1 : 1 + random.nextInt(6);
        longTicksInTen = random.nextInt(4);
    }

    public static void main(String[] args) {
        int runs = args.length > 0 ? Integer.parseInt(args[0]) : RUNS;
        int wrong = 0;
        for (int seed = 0; seed < runs && wrong < 5; seed++) {
            if (!new ReadingTest(seed).agrees(seed)) {
                wrong++;
            }
        }
        DUE.is("runs that were answered otherwise", wrong, 0);
        DUE.finish();
    }

    private boolean agrees(int seed) {
        for (int i = 0; i < CALLS; i++) {
            long both = oneCall();
            int got = (int) (both >> 32);
            int want = (int) both;
            if (got != want) {
                System.out.println("run " + seed + ", call " + i + ": " + call + " answered " + got + ", due " + want);
                return false;
            }
        }
        return true;
    }

    private boolean inTen(int many) {
        return random.nextInt(10) < many;
    }

    private int anEnd() {
        return random.nextInt(60) == 0 ? random.nextInt(5) - 2 : random.nextInt(2);
    }

    private static long both(int got, int want) {
        return ((long) got << 32) | (want & 0xffffffffL);
    }

    private long oneCall() {
        if (inTen(looksInTen)) {
            return look();
        }
        if (inTen(faultsInTen) && random.nextBoolean()) {
            return fault();
        }
        return isBusy && random.nextInt(20) != 0 ? stream() : act();
    }

    private long stream() {
        if (y.told(0, 0) == Due.CLOSED) {
            return call(0);
        }
        int end = random.nextInt(20) / 19;
        int which = random.nextInt(44);
        if (which < 22) {
            return type(random.nextLong(), 8);
        }
        if (which < 26) {
            return send(end);
        }
        if (which < 33) {
            return take(1 - end);
        }
        if (which < 35) {
            return urge(end);
        }
        return which < 36 ? urgent(1 - end) : tick(1 + random.nextInt(8));
    }

    private long look() {
        int end = anEnd();
        int which = random.nextInt(10);
        if (which < 5) {
            int what = random.nextInt(12) - 1;
            call = "told(" + end + ", " + what + ")";
            return both(x.told(end, what), y.told(end, what));
        }
        if (which < 7) {
            int number = y.sent() - random.nextInt(random.nextInt(8) == 0 ? 70 : 8);
            int i = random.nextInt(19) - 1;
            call = "byteOf(" + number + ", " + i + ")";
            return both(x.byteOf(number, i), y.byteOf(number, i));
        }
        if (which < 8) {
            int i = random.nextInt(18) - 1;
            call = "read(" + end + ", " + i + ")";
            return both(x.read(end, i), y.read(end, i));
        }
        call = which == 8 ? "clock()" : "sent()";
        return which == 8 ? both(x.clock(), y.clock()) : both(x.sent(), y.sent());
    }

    private long fault() {
        int kind = random.nextInt(30) == 0 ? random.nextInt(8) - 1 : 1 + random.nextInt(4);
        int number = y.sent() + random.nextInt(6) - (random.nextInt(20) == 0 ? 3 : 0);
        int place = random.nextInt(40) == 0 ? -1 : random.nextInt(25);
        int mask = random.nextInt(3) == 0 ? random.nextInt(258) : 255;
        call = "fault(" + kind + ", " + number + ", " + place + ", " + mask + ")";
        return both(x.fault(kind, number, place, mask), y.fault(kind, number, place, mask));
    }

    private long act() {
        int end = anEnd();
        switch (random.nextInt(24)) {
            case 0: case 1: case 2:
                return call(end);
            case 3: case 4: case 5:
                return type();
            case 6: case 7: case 8: case 9:
                return send(end);
            case 10: case 11:
                return urge(end);
            case 12:
                return isBusy || random.nextInt(6) != 0 ? tick() : end(end);
            case 13: case 14: case 15:
                return take(end);
            case 16: case 17:
                return urgent(end);
            default:
                return tick();
        }
    }

    private long call(int end) {
        call = "call(" + end + ")";
        return both(x.call(end), y.call(end));
    }

    private long send(int end) {
        call = "send(" + end + ")";
        return both(x.send(end), y.send(end));
    }

    private long urge(int end) {
        int b = random.nextInt(4) == 0 ? random.nextInt(258) - 1 : random.nextInt(2) * 255;
        call = "urge(" + end + ", " + b + ")";
        return both(x.urge(end, b), y.urge(end, b));
    }

    private long end(int end) {
        call = "end(" + end + ")";
        return both(x.end(end), y.end(end));
    }

    private long take(int end) {
        call = "take(" + end + ")";
        return both(x.take(end), y.take(end));
    }

    private long urgent(int end) {
        call = "urgent(" + end + ")";
        return both(x.urgent(end), y.urgent(end));
    }

    private long type() {
        int n = random.nextInt(30) == 0 ? random.nextInt(12) - 1 : random.nextInt(3) == 0 ? 1 : 8;
        return type(random.nextBoolean() ? random.nextLong() : random.nextInt(2) * -1L, n);
    }

    private long type(long bytes, int n) {
        call = "type(" + bytes + ", " + n + ")";
        return both(x.type(bytes, n), y.type(bytes, n));
    }

    private long tick() {
        int most = inTen(longTicksInTen) ? 20 : 4;
        return tick(random.nextInt(60) == 0 ? random.nextInt(30) - 4 : 1 + random.nextInt(most));
    }

    private long tick(int many) {
        call = "tick(" + many + ")";
        return both(x.tick(many), y.tick(many));
    }
}
