/** What an end does with each kind of unit, in each of its states. */
public final class ArrivalTest {
    private static final Due DUE = new Due();

    public static void main(String[] args) {
        callToAClosedEnd();
        callToAClosedEndAgain();
        callToACallingEnd();
        callToTheEndThatAnsweredIt();
        callToAnEndThatAnsweredAnother();
        callToAnEndThatWasAnswered();
        callToAClosingEnd();
        callToAFrozenEnd();
        answerToACallingEnd();
        answerToAnOpenEnd();
        answerOfAnotherToAnOpenEnd();
        answerToAClosingEnd();
        answerToAFrozenEnd();
        answerForAnotherReference();
        dataToAnEndWithoutAConnection();
        dataForAnotherReference();
        urgentAgainToAnOpenEnd();
        urgentToAnEndWithoutAConnection();
        urgentReceiptOfAnotherNumber();
        receiptIsNoUrgentReceipt();
        urgentReceiptIsNoReceipt();
        endToACallingEnd();
        endToAnOpenEnd();
        endToAClosingEnd();
        endToAFrozenEnd();
        endToAClosedEnd();
        endForAnotherReference();
        endReceiptToAClosingEnd();
        endReceiptToAFrozenEnd();
        endReceiptForAnotherReference();
        frozenEndSendsNothingOfWhatWaited();
        frozenEndIsClosedTwelveTicksLater();
        whatCameStaysTillTheNextConnection();
        DUE.finish();
    }

    /** "CALL: when CLOSED, the end gets its next reference, is OPEN with the caller's as the peer's". */
    private static void callToAClosedEnd() {
        TransportFour x = new TransportFour();
        x.call(1);
        x.tick(1);
        DUE.told(x, 0, 0, 0, 0);
        x.tick(1);
        DUE.told(x, 0, 2, 1, 1, 0, 0, 6, 6, 0, 0, -1);
        DUE.is("sent", x.sent(), 2);
        DUE.unit(x, 1, Due.answerUnit(1, 1));
    }

    /** End 0 has called in vain once, so that its second CALL bears 2 and is answered from 1. */
    private static void callToAClosedEndAgain() {
        TransportFour x = new TransportFour();
        x.call(0);
        x.call(1);
        x.tick(4);
        DUE.is("call(0)", x.call(0), 2);
        x.tick(2);
        DUE.told(x, 1, 2, 2, 2, 0, 0, 6, 6, 0, 0, -1);
        DUE.unit(x, x.sent() - 1, Due.answerUnit(2, 2));
    }

    /** "Else END with reason 2 is sent to the caller's reference, from reference 0." */
    private static void callToACallingEnd() {
        TransportFour x = Due.inState(1, Due.CALLING);
        x.call(0);
        x.tick(2);
        DUE.unit(x, 2, Due.endUnit(1, 0, 2));
        DUE.told(x, 1, 1, 1, 0, 0, 0, 6, 0, 0, 0, -1);
        x.tick(2);
        DUE.told(x, 0, 0, 1, 0, 0, 0, 6, 0, 0, 0, 2);
        DUE.unit(x, 3, Due.endReceiptUnit(0, 1));
        x.tick(2);
        DUE.is("sent", x.sent(), 4);
        DUE.state(x, 1, Due.CALLING);
    }

    /** "When OPEN by an ANSWER to that very reference, nothing is done." */
    private static void callToTheEndThatAnsweredIt() {
        TransportFour x = new TransportFour();
        x.fault(Due.DOUBLED, 0, 0, 0);
        x.call(0);
        x.tick(2);
        TransportFour y = new TransportFour();
        y.call(0);
        y.tick(2);
        x.tick(1);
        y.tick(1);
        DUE.same("a second CALL", Picture.of(x), Picture.of(y));
        DUE.is("sent", x.sent(), 2);
    }

    /** The first CALL comes from 65281, the second one from 1. */
    private static void callToAnEndThatAnsweredAnother() {
        TransportFour x = new TransportFour();
        x.fault(Due.SPOILED, 0, 4, 255);
        x.call(0);
        x.tick(9);
        DUE.is("sent at 9", x.sent(), 3);
        x.tick(1);
        DUE.unit(x, 3, Due.endUnit(1, 0, 2));
        DUE.told(x, 1, 2, 1, 65281, 0, 0, 6, 6, 0, 0, -1);
    }

    /** End 1 calls from 1, is refused, and answers from 2; its second CALL comes one tick behind that. */
    private static void callToAnEndThatWasAnswered() {
        TransportFour x = new TransportFour();
        x.fault(Due.DELAYED, 0, 0, 0);
        x.fault(Due.DELAYED, 4, 0, 0);
        x.call(1);
        x.tick(6);
        x.call(0);
        x.tick(4);
        DUE.unit(x, 4, Due.callUnit(1));
        DUE.is("call(0) at 10", x.call(0), 2);
        x.tick(4);
        DUE.told(x, 0, 2, 2, 2, 0, 0, 6, 6, 0, 0, -1);
        DUE.is("sent at 14", x.sent(), 10);
        x.tick(1);
        DUE.is("sent at 15", x.sent(), 11);
        DUE.unit(x, 10, Due.endUnit(1, 0, 2));
        DUE.told(x, 0, 2, 2, 2, 0, 0, 6, 6, 0, 0, -1);
        x.tick(2);
        DUE.unit(x, 11, Due.endReceiptUnit(0, 1));
        DUE.told(x, 1, 2, 2, 2, 0, 0, 6, 6, 0, 0, -1);
    }

    private static void callToAClosingEnd() {
        TransportFour x = new TransportFour();
        x.fault(Due.DOUBLED, 0, 0, 0);
        x.call(0);
        x.tick(2);
        x.end(1);
        x.tick(1);
        DUE.is("sent", x.sent(), 4);
        DUE.unit(x, 3, Due.endUnit(1, 0, 2));
        DUE.told(x, 1, 3, 1, 1, 0, 0, 6, 6, 0, 0, 0);
    }

    private static void callToAFrozenEnd() {
        TransportFour x = Due.settled();
        x.end(1);
        Due.pass(x, 14);
        DUE.state(x, 0, Due.CLOSED);
        DUE.state(x, 1, Due.FROZEN);
        int before = x.sent();
        x.call(0);
        x.tick(2);
        DUE.is("sent", x.sent(), before + 2);
        DUE.unit(x, before + 1, Due.endUnit(2, 0, 2));
        DUE.is("reference", x.told(1, 1), 1);
    }

    /** "ANSWER: when CALLING: OPEN, with the sender's reference as the peer's; .. a RECEIPT is sent." */
    private static void answerToACallingEnd() {
        TransportFour x = new TransportFour();
        x.call(0);
        x.tick(3);
        DUE.told(x, 0, 1, 1, 0, 0, 0, 6, 0);
        x.tick(1);
        DUE.told(x, 0, 2, 1, 1, 0, 0, 6, 6);
        DUE.is("sent", x.sent(), 3);
        DUE.unit(x, 2, Due.receiptUnit(1, 0, 6));
    }

    /** "When OPEN and the peer's reference is that one: a RECEIPT is sent." */
    private static void answerToAnOpenEnd() {
        TransportFour x = new TransportFour();
        x.fault(Due.DOUBLED, 1, 0, 0);
        x.call(0);
        x.tick(4);
        x.send(0);
        x.tick(1);
        DUE.is("sent", x.sent(), 5);
        DUE.unit(x, 4, Due.receiptUnit(1, 0, 6));
        DUE.told(x, 0, 2, 1, 1, 1, 0, 6, 6);
    }

    /** The first ANSWER comes from 65281, the second one, at 12, from 1. */
    private static void answerOfAnotherToAnOpenEnd() {
        TransportFour x = new TransportFour();
        x.fault(Due.SPOILED, 1, 4, 255);
        x.call(0);
        x.tick(11);
        DUE.unit(x, 3, Due.answerUnit(1, 1));
        x.tick(1);
        DUE.is("sent", x.sent(), 4);
        DUE.told(x, 0, 2, 1, 65281, 0, 0, 6, 6);
    }

    private static void answerToAClosingEnd() {
        TransportFour x = new TransportFour();
        x.call(0);
        x.tick(2);
        x.end(0);
        x.tick(2);
        DUE.told(x, 0, 3, 1, 0, 0, 0, 6, 0, 0, 0, 0);
        DUE.is("sent, with one END RECEIPT", x.sent(), 4);
    }

    private static void answerToAFrozenEnd() {
        TransportFour x = new TransportFour();
        x.fault(Due.DELAYED, 1, 0, 0);
        x.call(0);
        x.tick(2);
        x.end(0);
        x.tick(4);
        DUE.state(x, 0, Due.FROZEN);
        int before = x.sent();
        x.tick(3);
        DUE.told(x, 0, 4, 1, 0);
        DUE.is("sent at 9", x.sent(), before);
    }

    /** "when bytes 2, 3 are the end's reference": 1 comes as 65281. */
    private static void answerForAnotherReference() {
        TransportFour x = new TransportFour();
        x.fault(Due.SPOILED, 1, 2, 255);
        x.call(0);
        x.tick(7);
        DUE.told(x, 0, 1, 1, 0);
        DUE.is("sent", x.sent(), 2);
    }

    /** End 1 sends something and ends; that comes 5 ticks behind the END, when end 0 is no more OPEN. */
    private static TransportFour sentBeforeEnd(Due.Calls calls) {
        TransportFour x = Due.settled();
        x.fault(Due.DELAYED, 3, 0, 0);
        calls.on(x);
        x.end(1);
        x.tick(6);
        DUE.state(x, 0, Due.FROZEN);
        return x;
    }

    /** The same, but the ANSWER is lost, and the END finds end 0 CALLING. */
    private static TransportFour sentBeforeEndToCalling(Due.Calls calls) {
        TransportFour x = new TransportFour();
        Due.lose(x, 1, 1);
        x.fault(Due.DELAYED, 2, 0, 0);
        x.call(0);
        x.tick(2);
        calls.on(x);
        x.end(1);
        x.tick(6);
        DUE.state(x, 0, Due.CLOSED);
        return x;
    }

    /** "and the end is CALLING, OPEN or CLOSING; else .. all else is left." */
    private static void isLeft(String what, TransportFour x) {
        int before = x.sent();
        x.tick(1);
        DUE.is("sent behind " + what, x.sent(), before);
        DUE.is("messages", x.told(0, 7), 0);
        DUE.is("expected number", x.told(0, 4), 0);
        DUE.is("urgent bytes", x.told(0, 8), 0);
    }

    private static void dataToAnEndWithoutAConnection() {
        isLeft("DATA when FROZEN", sentBeforeEnd(x -> x.send(1)));
        isLeft("DATA when CLOSED", sentBeforeEndToCalling(x -> x.send(1)));
    }

    private static void urgentToAnEndWithoutAConnection() {
        isLeft("URGENT when FROZEN", sentBeforeEnd(x -> x.urge(1, 1)));
        isLeft("URGENT when CLOSED", sentBeforeEndToCalling(x -> x.urge(1, 1)));
    }

    private static void dataForAnotherReference() {
        TransportFour x = Due.settled();
        x.fault(Due.SPOILED, 3, 2, 255);
        x.send(0);
        x.tick(2);
        DUE.is("sent", x.sent(), 4);
        DUE.is("messages", x.told(1, 7), 0);
    }

    /** "for each one an URGENT RECEIPT is sent, with the number that is expected then." */
    private static void urgentAgainToAnOpenEnd() {
        TransportFour x = Due.settled();
        x.fault(Due.DOUBLED, 3, 0, 0);
        x.urge(0, 8);
        x.tick(3);
        DUE.unit(x, 4, Due.urgentReceiptUnit(1, 1));
        DUE.unit(x, 5, Due.urgentReceiptUnit(1, 1));
        DUE.is("urgent bytes", x.told(1, 8), 1);
    }

    /** "if its number is one more than that of the urgent unit that waits": 1 comes again while 1 waits. */
    private static void urgentReceiptOfAnotherNumber() {
        TransportFour x = Due.settled();
        x.fault(Due.DOUBLED, 4, 0, 0);
        Due.lose(x, 5, 1);
        x.urge(0, 8);
        x.urge(0, 9);
        x.urge(0, 10);
        x.tick(5);
        DUE.is("what waits", x.urge(0, 11), 3);
        DUE.is("sent", x.sent(), 6);
        DUE.unit(x, 5, Due.urgentUnit(1, 1, 9));
        x.tick(7);
        DUE.unit(x, 6, Due.urgentUnit(1, 1, 9));
    }

    /** RECEIPT 1 comes while URGENT 0, which was lost, waits. */
    private static void receiptIsNoUrgentReceipt() {
        TransportFour x = Due.settled();
        Due.lose(x, 3, 1);
        x.urge(0, 8);
        x.send(0);
        x.tick(4);
        DUE.unit(x, 5, Due.receiptUnit(1, 1, 5));
        DUE.is("what waits", x.urge(0, 9), 2);
        x.tick(4);
        DUE.unit(x, 6, Due.urgentUnit(1, 0, 8));
    }

    /** URGENT RECEIPT 1 comes while DATA 0, which was lost, waits. */
    private static void urgentReceiptIsNoReceipt() {
        TransportFour x = Due.settled();
        Due.lose(x, 3, 1);
        x.send(0);
        x.urge(0, 8);
        x.tick(4);
        DUE.unit(x, 5, Due.urgentReceiptUnit(1, 1));
        DUE.is("allowed", x.told(0, 6), 6);
        DUE.is("what waits", x.send(0), 2);
    }

    /** "the end is FROZEN (CALLING: CLOSED)". */
    private static void endToACallingEnd() {
        TransportFour x = new TransportFour();
        x.call(0);
        x.call(1);
        x.tick(3);
        DUE.state(x, 0, Due.CALLING);
        x.tick(1);
        DUE.told(x, 0, 0, 1, 0, 0, 0, 6, 0, 0, 0, 2);
        DUE.unit(x, 4, Due.endReceiptUnit(0, 1));
        DUE.is("it may call at once", x.call(0), 2);
    }

    private static void endToAnOpenEnd() {
        TransportFour x = Due.settled();
        x.end(1);
        x.tick(1);
        DUE.state(x, 0, Due.OPEN);
        x.tick(1);
        DUE.told(x, 0, 4, 1, 1, 0, 0, 6, 6, 0, 0, 0);
        DUE.unit(x, 4, Due.endReceiptUnit(1, 1));
    }

    private static void endToAClosingEnd() {
        TransportFour x = Due.inState(0, Due.CLOSING);
        x.end(1);
        x.tick(2);
        DUE.told(x, 0, 4, 1, 1, 0, 0, 6, 6, 0, 0, 0);
        DUE.unit(x, 5, Due.endReceiptUnit(1, 1));
        x.tick(6);
        DUE.is("its END is not sent again", x.sent(), 6);
    }

    /** "else an END gets END RECEIPT (to its sender's reference, from its bytes 2, 3)". */
    private static void endToAFrozenEnd() {
        TransportFour x = Due.settled();
        x.fault(Due.DOUBLED, 3, 0, 0);
        x.end(0);
        x.tick(3);
        DUE.is("sent", x.sent(), 6);
        DUE.unit(x, 5, Due.endReceiptUnit(1, 1));
        x.tick(10);
        DUE.state(x, 1, Due.FROZEN);
        x.tick(1);
        DUE.state(x, 1, Due.CLOSED);
    }

    private static void endToAClosedEnd() {
        TransportFour x = new TransportFour();
        Due.lose(x, 0, 1);
        x.call(0);
        x.end(0);
        x.tick(2);
        DUE.told(x, 1, 0, 0, 0, 0, 0, 6, 0, 0, 0, -1);
        DUE.unit(x, 2, Due.endReceiptUnit(1, 0));
    }

    private static void endForAnotherReference() {
        TransportFour x = Due.settled();
        x.fault(Due.SPOILED, 3, 2, 255);
        x.end(0);
        x.tick(2);
        DUE.told(x, 1, 2, 1, 1, 0, 0, 6, 6, 0, 0, -1);
        DUE.unit(x, 4, Due.endReceiptUnit(1, 65281));
    }

    private static void endReceiptToAClosingEnd() {
        TransportFour x = Due.settled();
        x.end(0);
        x.tick(3);
        DUE.state(x, 0, Due.CLOSING);
        x.tick(1);
        DUE.state(x, 0, Due.FROZEN);
        Due.pass(x, 40);
        DUE.is("sent", x.sent(), 5);
    }

    /** The second END RECEIPT, at 11, does not make the 12 ticks from 10 on longer. */
    private static void endReceiptToAFrozenEnd() {
        TransportFour x = Due.settled();
        x.fault(Due.DOUBLED, 4, 0, 0);
        x.end(0);
        x.tick(15);
        DUE.state(x, 0, Due.FROZEN);
        x.tick(1);
        DUE.state(x, 0, Due.CLOSED);
        DUE.is("sent", x.sent(), 5);
    }

    private static void endReceiptForAnotherReference() {
        TransportFour x = Due.settled();
        x.fault(Due.SPOILED, 4, 2, 255);
        x.end(0);
        x.tick(7);
        DUE.state(x, 0, Due.CLOSING);
        x.tick(1);
        DUE.unit(x, 5, Due.endUnit(1, 1, 0));
    }

    /** "An end that is no more OPEN, CALLING or CLOSING sends nothing of what waited." */
    private static void frozenEndSendsNothingOfWhatWaited() {
        TransportFour x = Due.settled();
        Due.lose(x, 3, 2);
        for (int i = 0; i < 8; i++) {
            x.send(0);
        }
        x.urge(0, 1);
        x.urge(0, 2);
        x.end(1);
        x.tick(2);
        DUE.state(x, 0, Due.FROZEN);
        int before = x.sent();
        Due.pass(x, 60);
        DUE.is("sent", x.sent(), before);
    }

    private static void frozenEndIsClosedTwelveTicksLater() {
        TransportFour x = Due.settled();
        x.end(0);
        Due.pass(x, 13);
        DUE.state(x, 1, Due.FROZEN);
        x.tick(1);
        DUE.state(x, 1, Due.CLOSED);
        x.tick(1);
        DUE.state(x, 0, Due.FROZEN);
        x.tick(1);
        DUE.state(x, 0, Due.CLOSED);
    }

    private static TransportFour closedWithThings() {
        TransportFour x = Due.settled();
        x.type(3, 1);
        x.send(0);
        x.urge(0, 4);
        x.tick(4);
        x.end(0);
        Due.pass(x, 16);
        DUE.told(x, 1, 0, 1, 1, 0, 1, 5, 6, 1, 1, 0);
        return x;
    }

    /** "Messages and urgent bytes that came stay till the next connection begins." */
    private static void whatCameStaysTillTheNextConnection() {
        TransportFour x = closedWithThings();
        DUE.is("take when CLOSED", x.take(1), 1);
        DUE.is("urgent when CLOSED", x.urgent(1), 4);
        TransportFour y = closedWithThings();
        y.call(1);
        DUE.told(y, 1, 1, 2, 0, 0, 0, 6, 0, 0, 0, -1);
        DUE.is("take behind its call", y.take(1), Due.NO);
        DUE.is("urgent behind its call", y.urgent(1), Due.NO);
        TransportFour z = closedWithThings();
        z.call(0);
        z.tick(1);
        DUE.is("messages one tick before the CALL", z.told(1, 7), 1);
        DUE.is("urgent bytes one tick before the CALL", z.told(1, 8), 1);
        z.tick(1);
        DUE.told(z, 1, 2, 2, 2, 0, 0, 6, 6, 0, 0, -1);
        DUE.is("take behind its ANSWER", z.take(1), Due.NO);
        DUE.is("urgent behind its ANSWER", z.urgent(1), Due.NO);
    }
}
