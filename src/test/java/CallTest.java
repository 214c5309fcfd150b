/** Promise 2: how a connection begins, is refused, or is given up. */
public final class CallTest {
    private static final Due DUE = new Due();

    public static void main(String[] args) {
        wrongEnds();
        onlyAClosedEndMayCall();
        closedEndMayCallAgain();
        callIsAnswered();
        callIsSentAgainAndGivenUp();
        answerIsSentAgainAndGivenUp();
        secondCallOfOneReferenceIsLeft();
        bothEndsCall();
        openEndRefusesAnotherReference();
        frozenEndRefuses();
        answerAgainGetsReceipt();
        spoiledAnswerGivesAnotherPeer();
        referencesGoOn();
        connectionMayBeginLate();
        DUE.finish();
    }

    private static void wrongEnds() {
        TransportFour x = new TransportFour();
        for (int end : Due.NO_ENDS) {
            DUE.is("call(" + end + ")", x.call(end), Due.BAD);
        }
        DUE.is("sent", x.sent(), 0);
        DUE.is("call(1)", x.call(1), 1);
        DUE.is("call(0)", x.call(0), 1);
    }

    /** "NO when it is not closed". */
    private static void onlyAClosedEndMayCall() {
        for (int end = 0; end < 2; end++) {
            for (int state = Due.CLOSED; state <= Due.FROZEN; state++) {
                TransportFour x = Due.inState(end, state);
                DUE.state(x, end, state);
                DUE.is("call(" + end + ") in state " + state, x.call(end), state == Due.CLOSED ? 1 : Due.NO);
            }
        }
    }

    /** An end is FROZEN at 8 and CLOSED at 20: one tick before that it may not call. */
    private static void closedEndMayCallAgain() {
        TransportFour x = Due.inState(0, Due.FROZEN);
        x.tick(11);
        DUE.is("call(0) 11 ticks later", x.call(0), Due.NO);
        x.tick(1);
        DUE.is("call(0) 12 ticks later", x.call(0), 2);
        DUE.unit(x, x.sent() - 1, Due.callUnit(2));
    }

    private static void callIsAnswered() {
        TransportFour x = new TransportFour();
        DUE.is("call(0)", x.call(0), 1);
        DUE.is("call(0) again", x.call(0), Due.NO);
        DUE.unit(x, 0, Due.row(10, 230, 0, 0, 0, 1, 64, 195, 2, 40, 223));
        DUE.told(x, 0, 1, 1, 0, 0, 0, 6, 0, 0, 0, -1);
        x.tick(1);
        DUE.state(x, 1, 0);
        x.tick(1);
        DUE.told(x, 1, 2, 1, 1, 0, 0, 6, 6, 0, 0, -1);
        DUE.unit(x, 1, Due.answerUnit(1, 1));
        DUE.is("call(1) when OPEN", x.call(1), Due.NO);
        x.tick(2);
        DUE.told(x, 0, 2, 1, 1, 0, 0, 6, 6, 0, 0, -1);
        DUE.unit(x, 2, Due.receiptUnit(1, 0, 6));
        Due.pass(x, 16);
        DUE.is("sent, the ANSWER waits no more", x.sent(), 3);
    }

    private static void callIsSentAgainAndGivenUp() {
        TransportFour x = new TransportFour();
        for (int number = 0; number < 4; number++) {
            x.fault(Due.LOST, number, 0, 1);
        }
        x.call(0);
        x.tick(7);
        DUE.is("sent at 7", x.sent(), 1);
        x.tick(1);
        DUE.is("sent at 8", x.sent(), 2);
        DUE.unit(x, 1, Due.callUnit(1));
        Due.pass(x, 23);
        DUE.is("sent at 31", x.sent(), 4);
        DUE.state(x, 0, 1);
        x.tick(1);
        DUE.is("sent at 32", x.sent(), 5);
        DUE.unit(x, 4, Due.endUnit(0, 1, 1));
        DUE.told(x, 0, 4, 1, 0, 0, 0, 6, 0, 0, 0, 1);
        x.tick(2);
        DUE.unit(x, 5, Due.endReceiptUnit(1, 0));
        x.tick(9);
        DUE.is("call(0) when FROZEN", x.call(0), Due.NO);
        DUE.state(x, 0, 4);
        x.tick(1);
        DUE.state(x, 0, 0);
        DUE.is("sent at 44", x.sent(), 6);
        DUE.is("call(0) when CLOSED", x.call(0), 2);
        DUE.told(x, 0, 1, 2, 0, 0, 0, 6, 0, 0, 0, -1);
        DUE.unit(x, 6, Due.callUnit(2));
    }

    /** The caller ends at once, so no good unit for the answerer's connection ever comes. */
    private static void answerIsSentAgainAndGivenUp() {
        TransportFour x = new TransportFour();
        x.call(0);
        x.end(0);
        x.tick(2);
        DUE.unit(x, 2, Due.answerUnit(1, 1));
        DUE.unit(x, 3, Due.endReceiptUnit(1, 0));
        x.tick(2);
        DUE.state(x, 0, 4);
        x.tick(6);
        DUE.unit(x, 4, Due.answerUnit(1, 1));
        Due.pass(x, 23);
        DUE.state(x, 1, 2);
        DUE.is("sent at 33", x.sent(), 7);
        x.tick(1);
        DUE.state(x, 1, 4);
        DUE.unit(x, 7, Due.endUnit(1, 1, 1));
        DUE.is("reason", x.told(1, 9), 1);
    }

    private static void secondCallOfOneReferenceIsLeft() {
        TransportFour x = new TransportFour();
        x.fault(Due.DOUBLED, 0, 0, 1);
        x.call(1);
        x.tick(3);
        DUE.is("sent", x.sent(), 2);
        DUE.told(x, 0, 2, 1, 1);
    }

    private static void bothEndsCall() {
        TransportFour x = new TransportFour();
        DUE.is("call(1)", x.call(1), 1);
        DUE.is("call(0)", x.call(0), 1);
        x.tick(2);
        DUE.unit(x, 2, Due.endUnit(1, 0, 2));
        DUE.unit(x, 3, Due.endUnit(1, 0, 2));
        DUE.told(x, 0, 1, 1, 0, 0, 0, 6, 0, 0, 0, -1);
        x.tick(2);
        DUE.unit(x, 4, Due.endReceiptUnit(0, 1));
        DUE.told(x, 0, 0, 1, 0, 0, 0, 6, 0, 0, 0, 2);
        DUE.told(x, 1, 0, 1, 0, 0, 0, 6, 0, 0, 0, 2);
        Due.pass(x, 30);
        DUE.is("sent", x.sent(), 6);
        DUE.is("call(1) again", x.call(1), 2);
    }

    /** A CALL's reference 0, 1 is spoiled to 255, 1 and still good: 0 and 255 are one modulo 255. */
    private static void openEndRefusesAnotherReference() {
        TransportFour x = new TransportFour();
        x.fault(Due.SPOILED, 0, 4, 255);
        x.call(0);
        x.tick(2);
        DUE.told(x, 1, 2, 1, 65281);
        DUE.unit(x, 1, Due.answerUnit(65281, 1));
        x.tick(2);
        DUE.state(x, 0, 1);
        x.tick(6);
        DUE.unit(x, 3, Due.endUnit(1, 0, 2));
        DUE.unit(x, 4, Due.answerUnit(65281, 1));
        DUE.told(x, 1, 2, 1, 65281, 0, 0, 6, 6, 0, 0, -1);
        x.tick(2);
        DUE.told(x, 0, 0, 1, 0, 0, 0, 6, 0, 0, 0, 2);
    }

    private static void frozenEndRefuses() {
        TransportFour x = Due.settled();
        x.end(1);
        x.tick(2);
        DUE.state(x, 0, 4);
        x.tick(11);
        DUE.state(x, 0, 4);
        DUE.state(x, 1, 4);
        x.tick(1);
        DUE.state(x, 0, 0);
        x.tick(1);
        DUE.state(x, 1, 4);
        x.tick(1);
        DUE.state(x, 1, 0);
        DUE.is("sent", x.sent(), 5);
        DUE.is("call(0)", x.call(0), 2);
        x.tick(2);
        DUE.told(x, 1, 2, 2, 2, 0, 0, 6, 6, 0, 0, -1);

        TransportFour y = Due.settled();
        y.end(1);
        y.tick(4);
        Due.pass(y, 10);
        DUE.state(y, 0, 0);
        DUE.state(y, 1, 4);
        y.call(0);
        y.tick(2);
        DUE.state(y, 1, 0);
        DUE.unit(y, y.sent() - 1, Due.endUnit(2, 0, 2));
        DUE.is("reason of the one that refused", y.told(1, 9), 0);
    }

    private static void answerAgainGetsReceipt() {
        TransportFour x = new TransportFour();
        x.fault(Due.DOUBLED, 1, 0, 1);
        x.call(0);
        x.tick(5);
        DUE.is("sent", x.sent(), 4);
        DUE.unit(x, 3, Due.receiptUnit(1, 0, 6));
    }

    private static void spoiledAnswerGivesAnotherPeer() {
        TransportFour x = new TransportFour();
        x.fault(Due.SPOILED, 1, 4, 255);
        x.call(0);
        x.tick(4);
        DUE.told(x, 0, 2, 1, 65281);
        DUE.unit(x, 2, Due.receiptUnit(65281, 0, 6));
        x.tick(6);
        DUE.is("ANSWER again at 10", x.sent(), 4);
        x.tick(2);
        DUE.is("an ANSWER of another reference is left", x.sent(), 4);
    }

    /** More than 50 ticks before any connection are no reason to give up. */
    private static void connectionMayBeginLate() {
        TransportFour x = new TransportFour();
        Due.pass(x, 200);
        x.call(0);
        x.tick(2);
        DUE.told(x, 1, 2, 1, 1, 0, 0, 6, 6, 0, 0, -1);
        DUE.is("sent at 202", x.sent(), 2);
        x.tick(2);
        DUE.told(x, 0, 2, 1, 1, 0, 0, 6, 6, 0, 0, -1);
        DUE.is("sent at 204", x.sent(), 3);
        x.end(0);
        Due.pass(x, 200);
        x.call(1);
        x.tick(4);
        DUE.told(x, 0, 2, 2, 2, 0, 0, 6, 6, 0, 0, -1);
        DUE.told(x, 1, 2, 2, 2, 0, 0, 6, 6, 0, 0, -1);
    }

    private static void referencesGoOn() {
        TransportFour x = new TransportFour();
        for (int round = 1; round <= 20; round++) {
            DUE.is("call " + round, x.call(round % 2), round);
            x.tick(4);
            DUE.told(x, 0, 2, round, round);
            DUE.told(x, 1, 2, round, round);
            x.end(0);
            x.tick(16);
            DUE.told(x, 0, 0, round, round);
        }
    }
}
