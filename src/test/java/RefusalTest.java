import java.util.function.Supplier;

/** A call that is refused leaves everything as it was, and so does one that only tells. */
public final class RefusalTest {
    private static final Due DUE = new Due();

    public static void main(String[] args) {
        wrongArgumentsLeaveAll();
        noLeavesAllInEachState();
        emptyQueuesLeaveAll();
        fullTapeLeavesAll();
        fullOutboxLeavesAll();
        fullUrgentBytesLeaveAll();
        fullFaultsLeaveAll();
        lastTickLeavesAll();
        tellingLeavesAll();
        DUE.finish();
    }

    /** Two objects are made alike; one of them is asked for more, and must go on like the other. */
    private static void leaves(String what, Supplier<TransportFour> maker, int due, Due.Calls refused) {
        TransportFour x = maker.get();
        TransportFour y = maker.get();
        DUE.is(what, refused.on(x), due);
        DUE.same(what + " leaves all", Picture.withFuture(x), Picture.withFuture(y));
    }

    /** Messages and urgent bytes wait, are there and were taken at both ends; the tape has three bytes. */
    private static TransportFour busy() {
        TransportFour x = Due.settled();
        for (int end = 0; end < 2; end++) {
            Due.type(x, 10, 9);
            x.send(end);
            x.type(77, 1);
            x.send(end);
            x.urge(end, 1);
            x.urge(end, 2);
        }
        x.tick(5);
        x.take(0);
        x.take(1);
        x.fault(Due.LOST, x.sent(), 0, 0);
        Due.type(x, 30, 12);
        x.send(0);
        x.type(0x010203, 3);
        return x;
    }

    private static void wrongArgumentsLeaveAll() {
        for (int end : Due.NO_ENDS) {
            leaves("call(" + end + ")", RefusalTest::busy, Due.BAD, x -> x.call(end));
            leaves("send(" + end + ")", RefusalTest::busy, Due.BAD, x -> x.send(end));
            leaves("urge(" + end + ", 1)", RefusalTest::busy, Due.BAD, x -> x.urge(end, 1));
            leaves("end(" + end + ")", RefusalTest::busy, Due.BAD, x -> x.end(end));
            leaves("take(" + end + ")", RefusalTest::busy, Due.BAD, x -> x.take(end));
            leaves("read(" + end + ", 0)", RefusalTest::busy, Due.BAD, x -> x.read(end, 0));
            leaves("urgent(" + end + ")", RefusalTest::busy, Due.BAD, x -> x.urgent(end));
            leaves("told(" + end + ", 0)", RefusalTest::busy, Due.BAD, x -> x.told(end, 0));
        }
        for (int n : new int[] {Integer.MIN_VALUE, -1, 0, 9, Integer.MAX_VALUE}) {
            leaves("type(1, " + n + ")", RefusalTest::busy, Due.BAD, x -> x.type(1, n));
        }
        for (int b : new int[] {Integer.MIN_VALUE, -1, 256, Integer.MAX_VALUE}) {
            leaves("urge(1, " + b + ")", RefusalTest::busy, Due.BAD, x -> x.urge(1, b));
        }
        for (int many : new int[] {Integer.MIN_VALUE, -1, 0, 21, Integer.MAX_VALUE}) {
            leaves("tick(" + many + ")", RefusalTest::busy, Due.BAD, x -> x.tick(many));
        }
        leaves("fault of kind 0", RefusalTest::busy, Due.BAD, x -> x.fault(0, x.sent() + 1, 0, 1));
        leaves("fault of kind 5", RefusalTest::busy, Due.BAD, x -> x.fault(5, x.sent() + 1, 0, 1));
        leaves("fault of a unit sent", RefusalTest::busy, Due.BAD, x -> x.fault(1, x.sent() - 1, 0, 1));
        leaves("fault of place -1", RefusalTest::busy, Due.BAD, x -> x.fault(4, x.sent() + 1, -1, 1));
        leaves("fault of mask 0", RefusalTest::busy, Due.BAD, x -> x.fault(4, x.sent() + 1, 0, 0));
        leaves("fault of mask 256", RefusalTest::busy, Due.BAD, x -> x.fault(4, x.sent() + 1, 0, 256));
    }

    private static TransportFour withTape(int end, int state) {
        TransportFour x = Due.inState(end, state);
        x.type(0x0908, 2);
        return x;
    }

    private static void noLeavesAllInEachState() {
        for (int end = 0; end < 2; end++) {
            int one = end;
            for (int state = Due.CLOSED; state <= Due.FROZEN; state++) {
                int there = state;
                Supplier<TransportFour> maker = () -> withTape(one, there);
                DUE.state(maker.get(), end, state);
                String where = "(" + end + ") in state " + state;
                if (state != Due.CLOSED) {
                    leaves("call" + where, maker, Due.NO, x -> x.call(one));
                }
                if (state != Due.OPEN) {
                    leaves("send" + where, maker, Due.NO, x -> x.send(one));
                    leaves("urge" + where, maker, Due.NO, x -> x.urge(one, 5));
                }
                if (state != Due.OPEN && state != Due.CALLING) {
                    leaves("end" + where, maker, Due.NO, x -> x.end(one));
                }
            }
        }
    }

    /** take and urgent answer NO in each state as long as nothing came, and read tells what it told before. */
    private static void emptyQueuesLeaveAll() {
        for (int state = Due.CLOSED; state <= Due.FROZEN; state++) {
            int there = state;
            leaves("take in state " + state, () -> withTape(1, there), Due.NO, x -> x.take(1));
            leaves("urgent in state " + state, () -> withTape(1, there), Due.NO, x -> x.urgent(1));
        }
        Supplier<TransportFour> emptied = () -> {
            TransportFour x = busy();
            x.take(1);
            x.urgent(1);
            x.urgent(1);
            return x;
        };
        leaves("take when all are taken", emptied, Due.NO, x -> x.take(1));
        leaves("urgent when all are taken", emptied, Due.NO, x -> x.urgent(1));
    }

    private static void fullTapeLeavesAll() {
        for (int n = 1; n <= 8; n++) {
            int many = n;
            Supplier<TransportFour> maker = () -> {
                TransportFour x = Due.settled();
                Due.type(x, 1, 65 - many);
                return x;
            };
            leaves("type " + n + " behind " + (65 - n), maker, Due.FULL, x -> x.type(-1L, many));
        }
    }

    private static void fullOutboxLeavesAll() {
        Supplier<TransportFour> forty = () -> {
            TransportFour x = Due.settled();
            for (int i = 0; i < 5; i++) {
                Due.typeWhole(x);
                x.send(0);
            }
            return x;
        };
        leaves("an empty message behind 40 units", forty, Due.FULL, x -> x.send(0));
        Supplier<TransportFour> forthcoming = () -> {
            TransportFour x = forty.get();
            Due.type(x, 50, 3);
            return x;
        };
        leaves("three bytes behind 40 units", forthcoming, Due.FULL, x -> x.send(0));
    }

    private static void fullUrgentBytesLeaveAll() {
        Supplier<TransportFour> eight = () -> {
            TransportFour x = Due.settled();
            for (int i = 0; i < 8; i++) {
                x.urge(1, 20 + i);
            }
            return x;
        };
        leaves("a ninth urgent byte", eight, Due.FULL, x -> x.urge(1, 99));
    }

    /** The sixty-first would lose the next unit. */
    private static void fullFaultsLeaveAll() {
        Supplier<TransportFour> sixty = () -> {
            TransportFour x = Due.settled();
            Due.lose(x, 4, 60);
            return x;
        };
        leaves("a sixty-first fault", sixty, Due.FULL, x -> x.fault(1, 3, 0, 0));
    }

    private static TransportFour late(int clock) {
        TransportFour x = new TransportFour();
        Due.pass(x, clock - 4);
        x.call(0);
        x.tick(4);
        x.send(0);
        return x;
    }

    private static void lastTickLeavesAll() {
        leaves("tick(20) at 2981", () -> late(2981), Due.FULL, x -> x.tick(20));
        leaves("tick(2) at 2999", () -> late(2999), Due.FULL, x -> x.tick(2));
        leaves("tick(1) at 3000", () -> late(3000), Due.FULL, x -> x.tick(1));
    }

    private static void tellingLeavesAll() {
        leaves("told", RefusalTest::busy, 2, x -> x.told(0, 0));
        leaves("told of 10", RefusalTest::busy, Due.BAD, x -> x.told(0, 10));
        leaves("sent", RefusalTest::busy, busy().sent(), x -> x.sent());
        leaves("byteOf", RefusalTest::busy, 10, x -> x.byteOf(0, 0));
        leaves("byteOf of none", RefusalTest::busy, Due.BAD, x -> x.byteOf(x.sent(), 0));
        leaves("clock", RefusalTest::busy, 11, x -> x.clock());
        leaves("read", RefusalTest::busy, 10, x -> x.read(1, 0));
        leaves("read of none", RefusalTest::busy, Due.BAD, x -> x.read(1, 9));
    }
}
