/** Promises 11 and 15: what a tick does, and in which order. */
public final class TickTest {
    private static final Due DUE = new Due();

    public static void main(String[] args) {
        wrongInputs();
        oneToTwentyTicks();
        clockEndsAt3000();
        lastTicksOfTheClock();
        onlyTicksMoveTheClock();
        manyTicksAreAsManySingleOnes();
        arrivalsGoByWhenTheyWereSent();
        secondArrivalsComeBehind();
        end0ActsBeforeEnd1();
        answerThenDataThenUrgentAreSentAgain();
        silenceGetsReceipts();
        deafEndGivesUp();
        noReceiptInTheTickOfGivingUp();
        arrivalsComeBeforeTheThaw();
        DUE.finish();
    }

    private static void wrongInputs() {
        TransportFour x = new TransportFour();
        DUE.is("tick(0)", x.tick(0), Due.BAD);
        DUE.is("tick(-1)", x.tick(-1), Due.BAD);
        DUE.is("tick(21)", x.tick(21), Due.BAD);
        DUE.is("clock", x.clock(), 0);
        DUE.is("tick(20)", x.tick(20), 20);
        DUE.is("tick(1)", x.tick(1), 21);
        DUE.is("clock", x.clock(), 21);
    }

    private static void clockEndsAt3000() {
        TransportFour x = new TransportFour();
        for (int i = 1; i <= 149; i++) {
            DUE.is("tick(20)", x.tick(20), 20 * i);
        }
        DUE.is("tick(19)", x.tick(19), 2999);
        DUE.is("tick(2)", x.tick(2), Due.FULL);
        DUE.is("clock", x.clock(), 2999);
        DUE.is("tick(1)", x.tick(1), 3000);
        DUE.is("tick(1)", x.tick(1), Due.FULL);
        DUE.is("BAD before FULL", x.tick(21), Due.BAD);
        DUE.is("clock", x.clock(), 3000);
    }

    /** "So many (1 .. 20) ticks". */
    private static void oneToTwentyTicks() {
        int[] wrong = {Integer.MIN_VALUE, -20, -1, 0, 21, 22, 3001, Integer.MAX_VALUE};
        for (int many : wrong) {
            TransportFour x = new TransportFour();
            DUE.is("tick(" + many + ")", x.tick(many), Due.BAD);
            DUE.is("clock", x.clock(), 0);
        }
        for (int many = 1; many <= 20; many++) {
            TransportFour x = new TransportFour();
            DUE.is("tick(" + many + ")", x.tick(many), many);
            DUE.is("clock", x.clock(), many);
        }
    }

    /** "FULL when it would be above 3000": so many ticks end at 3000, or would end at 3001. */
    private static void lastTicksOfTheClock() {
        for (int many = 1; many <= 20; many++) {
            TransportFour x = new TransportFour();
            Due.pass(x, 3000 - many);
            DUE.is("tick(" + many + ") at " + (3000 - many), x.tick(many), 3000);
            DUE.is("tick(1) at 3000", x.tick(1), Due.FULL);
            TransportFour y = new TransportFour();
            Due.pass(y, 3001 - many);
            DUE.is("tick(" + many + ") at " + (3001 - many), y.tick(many), Due.FULL);
            DUE.is("clock", y.clock(), 3001 - many);
        }
    }

    private static void onlyTicksMoveTheClock() {
        TransportFour x = Due.settled();
        x.type(1, 1);
        x.send(0);
        x.urge(1, 1);
        x.fault(1, 9, 0, 0);
        x.take(0);
        x.urgent(0);
        x.end(1);
        x.call(1);
        DUE.is("clock", x.clock(), 6);
    }

    private static void manyTicksAreAsManySingleOnes() {
        TransportFour x = Due.opened();
        TransportFour y = Due.opened();
        for (int i = 0; i < 9; i++) {
            x.send(0);
            y.send(0);
            x.urge(1, i);
            y.urge(1, i);
        }
        x.tick(20);
        for (int i = 0; i < 20; i++) {
            y.tick(1);
        }
        DUE.is("sent", x.sent(), y.sent());
        for (int end = 0; end < 2; end++) {
            for (int what = 0; what < 10; what++) {
                DUE.is("told(" + end + ", " + what + ")", x.told(end, what), y.told(end, what));
            }
        }
    }

    /** Unit 3 is delayed and arrives at 13 together with unit 4: the one sent first comes first. */
    private static void arrivalsGoByWhenTheyWereSent() {
        TransportFour x = Due.settled();
        x.fault(Due.DELAYED, 3, 0, 1);
        x.urge(0, 1);
        x.tick(5);
        x.send(0);
        x.tick(2);
        DUE.unit(x, 5, Due.urgentReceiptUnit(1, 1));
        DUE.unit(x, 6, Due.receiptUnit(1, 1, 5));
        DUE.is("sent", x.sent(), 7);
    }

    /** At 9 the DATA of 6 comes a second time, and the URGENT of 7 the first time. */
    private static void secondArrivalsComeBehind() {
        TransportFour x = Due.settled();
        x.fault(Due.DOUBLED, 3, 0, 1);
        x.send(0);
        x.tick(1);
        x.urge(0, 5);
        x.tick(2);
        DUE.unit(x, 5, Due.receiptUnit(1, 1, 5));
        DUE.unit(x, 6, Due.urgentReceiptUnit(1, 1));
        DUE.unit(x, 7, Due.receiptUnit(1, 1, 5));
    }

    private static void end0ActsBeforeEnd1() {
        TransportFour x = Due.settled();
        x.fault(Due.LOST, 3, 0, 1);
        x.fault(Due.LOST, 4, 0, 1);
        x.urge(1, 1);
        x.urge(0, 2);
        x.tick(8);
        DUE.unit(x, 5, Due.urgentUnit(1, 0, 2));
        DUE.unit(x, 6, Due.urgentUnit(1, 0, 1));
    }

    /** "(CALL, ANSWER or END first, then DATA by its order, then URGENT)". */
    private static void answerThenDataThenUrgentAreSentAgain() {
        TransportFour x = new TransportFour();
        Due.lose(x, 1, 5);
        x.call(0);
        x.tick(2);
        x.urge(1, 7);
        x.type(1, 1);
        x.send(1);
        x.type(2, 1);
        x.send(1);
        x.tick(7);
        DUE.is("sent at 9", x.sent(), 6);
        x.tick(1);
        DUE.is("sent at 10", x.sent(), 10);
        DUE.unit(x, 6, Due.answerUnit(1, 1));
        DUE.unit(x, 7, Due.dataUnit(1, 0, true, 1));
        DUE.unit(x, 8, Due.dataUnit(1, 1, true, 2));
        DUE.unit(x, 9, Due.urgentUnit(1, 0, 7));
    }

    private static void silenceGetsReceipts() {
        TransportFour x = Due.opened();
        Due.pass(x, 17);
        DUE.is("sent at 21", x.sent(), 3);
        x.tick(1);
        DUE.unit(x, 3, Due.receiptUnit(1, 0, 6));
        DUE.is("sent at 22", x.sent(), 4);
        x.tick(1);
        DUE.is("sent at 23", x.sent(), 4);
        x.tick(1);
        DUE.is("sent at 24", x.sent(), 5);
        Due.pass(x, 18);
        DUE.is("sent at 42", x.sent(), 6);
        Due.pass(x, 200);
        DUE.state(x, 0, 2);
        DUE.state(x, 1, 2);
    }

    private static void deafEndGivesUp() {
        TransportFour x = Due.settled();
        for (int number = 3; number < 20; number++) {
            x.fault(Due.LOST, number, 0, 1);
        }
        Due.pass(x, 47);
        DUE.state(x, 0, 2);
        DUE.is("sent at 53", x.sent(), 7);
        x.tick(1);
        DUE.told(x, 0, 4, 1, 1, 0, 0, 6, 6, 0, 0, 1);
        DUE.unit(x, 7, Due.endUnit(1, 1, 1));
        x.tick(1);
        DUE.state(x, 1, 2);
        x.tick(1);
        DUE.state(x, 1, 4);
        DUE.unit(x, 8, Due.endUnit(1, 1, 1));
        x.tick(10);
        DUE.state(x, 0, 0);
        DUE.state(x, 1, 4);
        x.tick(2);
        DUE.state(x, 1, 0);
        DUE.is("sent at 68", x.sent(), 9);
    }

    /** End 1 hears at 6 for the last time, and sends at 16, 36, and would at 56, when it gives up. */
    private static void noReceiptInTheTickOfGivingUp() {
        TransportFour x = Due.opened();
        x.fault(Due.LOST, 16, 0, 1);
        x.fault(Due.LOST, 18, 0, 1);
        for (int i = 0; i < 6; i++) {
            x.send(0);
        }
        Due.pass(x, 12);
        DUE.is("sent at 16", x.sent(), 15);
        x.take(1);
        Due.pass(x, 39);
        DUE.is("sent at 55", x.sent(), 19);
        DUE.unit(x, 17, Due.receiptUnit(1, 6, 1));
        x.tick(1);
        DUE.is("sent at 56", x.sent(), 20);
        DUE.unit(x, 19, Due.endUnit(1, 1, 1));
        DUE.state(x, 1, 4);
    }

    private static void arrivalsComeBeforeTheThaw() {
        TransportFour x = Due.settled();
        x.end(0);
        Due.pass(x, 14);
        DUE.state(x, 0, 4);
        DUE.state(x, 1, 0);
        x.call(1);
        x.tick(2);
        DUE.state(x, 0, 0);
        DUE.unit(x, x.sent() - 1, Due.endUnit(2, 0, 2));
    }
}
