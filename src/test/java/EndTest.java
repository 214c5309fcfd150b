/** Promise 6: orderly and forced ends. */
public final class EndTest {
    private static final Due DUE = new Due();

    public static void main(String[] args) {
        wrongInputs();
        onlyAnOpenOrCallingEndEnds();
        unsentUnitsAreGone();
        openEndEnds();
        callingEndEnds();
        bothEnd();
        whatIsNotSentIsGone();
        endIsSentAgainAndGivenUp();
        sentDataIsSentAgainWhenClosing();
        dataIsKeptWhenClosing();
        dataIsKeptWhenCalling();
        receiptsAreLeftWhenClosing();
        endForNoConnectionGetsReceipt();
        spoiledReason();
        DUE.finish();
    }

    private static void wrongInputs() {
        TransportFour x = new TransportFour();
        DUE.is("end(2)", x.end(2), Due.BAD);
        DUE.is("end(-1)", x.end(-1), Due.BAD);
        DUE.is("end when CLOSED", x.end(0), Due.NO);
        DUE.is("sent", x.sent(), 0);
    }

    private static void onlyAnOpenOrCallingEndEnds() {
        for (int end = 0; end < 2; end++) {
            for (int state = Due.CLOSED; state <= Due.FROZEN; state++) {
                TransportFour x = Due.inState(end, state);
                boolean may = state == Due.OPEN || state == Due.CALLING;
                DUE.is("end(" + end + ") in state " + state, x.end(end), may ? 1 : Due.NO);
                DUE.state(x, end, may ? Due.CLOSING : state);
            }
        }
        TransportFour y = Due.settled();
        for (int end : Due.NO_ENDS) {
            DUE.is("end(" + end + ")", y.end(end), Due.BAD);
        }
    }

    /** "what it has not sent is gone": of 8 units 6 were sent, of 3 urgent bytes 1; END goes at once. */
    private static void unsentUnitsAreGone() {
        TransportFour x = Due.settled();
        Due.typeWhole(x);
        x.send(0);
        x.urge(0, 1);
        x.urge(0, 2);
        x.urge(0, 3);
        DUE.is("sent", x.sent(), 3 + 7);
        x.end(0);
        DUE.unit(x, 10, Due.endUnit(1, 1, 0));
        DUE.is("next number", x.told(0, 3), 6);
        Due.pass(x, 40);
        DUE.is("sent, with 6 RECEIPTs, an URGENT RECEIPT and an END RECEIPT", x.sent(), 11 + 8);
        DUE.told(x, 1, 0, 1, 1, 0, 6, 6, 6, 0, 1);
    }

    private static void openEndEnds() {
        TransportFour x = Due.settled();
        DUE.is("end(0)", x.end(0), 1);
        DUE.is("end(0) when CLOSING", x.end(0), Due.NO);
        DUE.told(x, 0, 3, 1, 1, 0, 0, 6, 6, 0, 0, 0);
        DUE.unit(x, 3, Due.endUnit(1, 1, 0));
        x.tick(2);
        DUE.told(x, 1, 4, 1, 1, 0, 0, 6, 6, 0, 0, 0);
        DUE.unit(x, 4, Due.endReceiptUnit(1, 1));
        DUE.is("end(1) when FROZEN", x.end(1), Due.NO);
        DUE.state(x, 0, 3);
        x.tick(2);
        DUE.state(x, 0, 4);
        x.tick(9);
        DUE.state(x, 1, 4);
        x.tick(1);
        DUE.state(x, 1, 0);
        DUE.state(x, 0, 4);
        x.tick(2);
        DUE.told(x, 0, 0, 1, 1, 0, 0, 6, 6, 0, 0, 0);
        Due.pass(x, 60);
        DUE.is("sent", x.sent(), 5);
    }

    private static void callingEndEnds() {
        TransportFour x = new TransportFour();
        x.fault(Due.LOST, 0, 0, 1);
        x.call(1);
        DUE.is("end(1)", x.end(1), 1);
        DUE.unit(x, 1, Due.endUnit(0, 1, 0));
        x.tick(2);
        DUE.unit(x, 2, Due.endReceiptUnit(1, 0));
        DUE.told(x, 0, 0, 0);
        x.tick(2);
        DUE.told(x, 1, 4, 1, 0, 0, 0, 6, 0, 0, 0, 0);
        Due.pass(x, 12);
        DUE.state(x, 1, 0);
        DUE.is("the CALL is not sent again", x.sent(), 3);
    }

    private static void bothEnd() {
        TransportFour x = Due.settled();
        x.end(0);
        x.end(1);
        x.tick(2);
        DUE.state(x, 0, 4);
        DUE.state(x, 1, 4);
        DUE.unit(x, 5, Due.endReceiptUnit(1, 1));
        DUE.unit(x, 6, Due.endReceiptUnit(1, 1));
        x.tick(12);
        DUE.state(x, 0, 0);
        DUE.state(x, 1, 0);
        DUE.is("sent", x.sent(), 7);
    }

    private static void whatIsNotSentIsGone() {
        TransportFour x = Due.settled();
        for (int i = 0; i < 10; i++) {
            x.send(0);
        }
        x.urge(0, 1);
        x.urge(0, 2);
        x.end(0);
        Due.pass(x, 40);
        DUE.told(x, 0, 0, 1, 1, 6);
        DUE.told(x, 1, 0, 1, 1, 0, 6, 0, 6, 6, 1, 0);
    }

    private static void endIsSentAgainAndGivenUp() {
        TransportFour x = Due.settled();
        for (int number = 3; number < 20; number++) {
            x.fault(Due.LOST, number, 0, 1);
        }
        x.end(0);
        x.tick(7);
        DUE.is("sent at 13", x.sent(), 4);
        x.tick(1);
        DUE.unit(x, 4, Due.endUnit(1, 1, 0));
        Due.pass(x, 23);
        DUE.state(x, 0, 3);
        int before = x.sent();
        x.tick(1);
        DUE.told(x, 0, 4, 1, 1, 0, 0, 6, 6, 0, 0, 0);
        DUE.unit(x, before, Due.endUnit(1, 1, 1));
        DUE.is("sent at 38", x.sent(), before + 1);
        Due.pass(x, 12);
        DUE.state(x, 0, 0);
    }

    /** The document lets only what was not sent be gone; what waits goes on till the end is FROZEN. */
    private static void sentDataIsSentAgainWhenClosing() {
        TransportFour x = Due.settled();
        x.fault(Due.LOST, 3, 0, 1);
        x.fault(Due.LOST, 4, 0, 1);
        x.fault(Due.LOST, 5, 0, 1);
        x.type(65, 1);
        x.send(0);
        x.urge(0, 66);
        x.end(0);
        x.tick(8);
        DUE.unit(x, 6, Due.endUnit(1, 1, 0));
        DUE.unit(x, 7, Due.dataUnit(1, 0, true, 65));
        DUE.unit(x, 8, Due.urgentUnit(1, 0, 66));
        x.tick(4);
        DUE.state(x, 0, 4);
        Due.pass(x, 20);
        DUE.is("sent, with one END RECEIPT", x.sent(), 10);
    }

    private static void dataIsKeptWhenClosing() {
        TransportFour x = Due.settled();
        x.type(9, 1);
        x.send(1);
        x.urge(1, 8);
        x.end(0);
        x.tick(2);
        DUE.unit(x, 6, Due.receiptUnit(1, 1, 5));
        DUE.unit(x, 7, Due.urgentReceiptUnit(1, 1));
        DUE.told(x, 0, 3, 1, 1, 0, 1, 5, 6, 1, 1, 0);
        x.tick(2);
        DUE.state(x, 0, 4);
        DUE.is("take", x.take(0), 1);
        DUE.is("read", x.read(0, 0), 9);
        DUE.is("urgent", x.urgent(0), 8);
    }

    private static void dataIsKeptWhenCalling() {
        TransportFour x = new TransportFour();
        x.fault(Due.DELAYED, 1, 0, 1);
        x.call(0);
        x.tick(2);
        x.type(9, 1);
        x.send(1);
        x.tick(2);
        DUE.told(x, 0, 1, 1, 0, 0, 1, 5, 0, 1);
        DUE.unit(x, 3, Due.receiptUnit(0, 1, 5));
        x.tick(2);
        DUE.is("the RECEIPT is for none", x.told(1, 6), 6);
        x.tick(3);
        DUE.told(x, 0, 2, 1, 1, 0, 1, 5, 6, 1);
        DUE.unit(x, 4, Due.callUnit(1));
        DUE.unit(x, 5, Due.receiptUnit(1, 1, 5));
    }

    /** Both receipts come while the END is lost: what they tell is left, and all three are sent again. */
    private static void receiptsAreLeftWhenClosing() {
        TransportFour x = Due.settled();
        x.fault(Due.LOST, 4, 0, 1);
        x.fault(Due.LOST, 6, 0, 1);
        x.type(1, 8);
        x.type(2, 8);
        x.send(0);
        x.urge(0, 3);
        x.end(0);
        x.tick(2);
        DUE.unit(x, 7, Due.receiptUnit(1, 1, 6));
        DUE.unit(x, 8, Due.urgentReceiptUnit(1, 1));
        x.tick(2);
        DUE.told(x, 0, 3, 1, 1, 2, 0, 6, 6);
        x.tick(4);
        DUE.unit(x, 9, Due.endUnit(1, 1, 0));
        DUE.unit(x, 10, Due.dataUnit(1, 0, false, 0, 0, 0, 0, 0, 0, 0, 1));
        DUE.unit(x, 11, Due.dataUnit(1, 1, true, 0, 0, 0, 0, 0, 0, 0, 2));
        DUE.unit(x, 12, Due.urgentUnit(1, 0, 3));
    }

    private static void endForNoConnectionGetsReceipt() {
        TransportFour x = Due.settled();
        x.fault(Due.DOUBLED, 3, 0, 1);
        x.end(0);
        x.tick(3);
        DUE.unit(x, 4, Due.endReceiptUnit(1, 1));
        DUE.unit(x, 5, Due.endReceiptUnit(1, 1));
        DUE.is("sent", x.sent(), 6);

        TransportFour y = Due.settled();
        y.fault(Due.SPOILED, 3, 2, 255);
        y.end(0);
        y.tick(2);
        DUE.state(y, 1, 2);
        DUE.is("no reason", y.told(1, 9), -1);
        DUE.unit(y, 4, Due.endReceiptUnit(1, 65281));
        y.tick(2);
        DUE.state(y, 0, 4);
    }

    private static void spoiledReason() {
        TransportFour x = Due.settled();
        x.fault(Due.SPOILED, 3, 6, 255);
        x.end(0);
        x.tick(2);
        DUE.is("reason that came", x.told(1, 9), 255);
        DUE.is("reason that was sent", x.told(0, 9), 0);
    }
}
