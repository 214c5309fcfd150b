/** Credit: how far an end may send, what the other one keeps, and when it tells so. */
public final class CreditTest {
    private static final Due DUE = new Due();

    public static void main(String[] args) {
        creditIsSixLessTheUnitsThere();
        creditIsZeroAtLeast();
        unfinishedMessageTakesNoCredit();
        nextNumberStaysBelowTheCredit();
        receiptLetsTheNextGo();
        receiptOfLessCreditHoldsBack();
        dataBelowExpectedAndCreditIsKept();
        expectedDataWithoutCreditIsNotKept();
        oldDataIsNotKeptButGetsReceipt();
        laterDataIsKeptOnce();
        whatIsNextIsPutBehind();
        messageIsThereWithItsLastUnit();
        takingAtCredit0SendsReceipt();
        takingAtCredit1SendsNone();
        takingSendsNoneWhenNotOpen();
        receiptOfTheSameNumberCounts();
        receiptBelowIsLeft();
        DUE.finish();
    }

    private static void sendEmpty(TransportFour x, int end, int many) {
        for (int i = 0; i < many; i++) {
            x.send(end);
        }
    }

    /** "Its CREDIT is 6 less the units of which the messages consist that are there and were not taken". */
    private static void creditIsSixLessTheUnitsThere() {
        for (int many = 0; many <= 6; many++) {
            TransportFour x = Due.settled();
            sendEmpty(x, 0, many);
            x.tick(2);
            DUE.is("credit with " + many + " units there", x.told(1, 5), 6 - many);
            if (many > 0) {
                DUE.unit(x, x.sent() - 1, Due.receiptUnit(1, many, 6 - many));
                x.take(1);
                DUE.is("credit with one taken of " + many, x.told(1, 5), 7 - many);
            }
        }
        TransportFour y = Due.settled();
        Due.type(y, 1, 33);
        y.send(0);
        y.tick(2);
        DUE.is("credit with a message of 5 units", y.told(1, 5), 1);
    }

    /** "0 at least": messages of 7 and 8 units. */
    private static void creditIsZeroAtLeast() {
        int[] lengths = {48, 49, 64};
        for (int length : lengths) {
            TransportFour x = Due.settled();
            Due.type(x, 1, length);
            x.send(0);
            x.tick(6);
            DUE.is("message of " + length, x.told(1, 7), 1);
            DUE.is("credit with a message of " + length, x.told(1, 5), 0);
            DUE.unit(x, x.sent() - 1, Due.receiptUnit(1, (length + 7) / 8, 0));
            DUE.is("take", x.take(1), length);
            DUE.is("credit then", x.told(1, 5), 6);
        }
    }

    private static void unfinishedMessageTakesNoCredit() {
        TransportFour x = Due.settled();
        Due.lose(x, 8, 1);
        Due.type(x, 1, 48);
        x.send(0);
        x.tick(2);
        DUE.told(x, 1, 2, 1, 1, 0, 5, 6, 6, 0);
    }

    /** "as long as the next number, less the one that the peer expects, is less than the credit". */
    private static void nextNumberStaysBelowTheCredit() {
        for (int there = 0; there <= 6; there++) {
            TransportFour x = Due.settled();
            sendEmpty(x, 0, there);
            x.tick(4);
            int before = x.sent();
            for (int i = 1; i <= 7; i++) {
                DUE.is("send " + i + " with " + there + " there", x.send(0), i);
                DUE.is("sent then", x.sent() - before, Math.min(i, 6 - there));
            }
            DUE.is("next number", x.told(0, 3), 6);
        }
    }

    private static void receiptLetsTheNextGo() {
        TransportFour x = Due.settled();
        Due.typeWhole(x);
        DUE.is("send", x.send(0), 8);
        DUE.is("next number", x.told(0, 3), 6);
        x.tick(3);
        DUE.is("next number at 9", x.told(0, 3), 6);
        x.tick(1);
        DUE.is("next number at 10", x.told(0, 3), 8);
        DUE.is("what waits", x.send(0), 3);
    }

    /** RECEIPT 1 still tells credit 6 while the message of two units is unfinished; RECEIPT 2 tells 4. */
    private static void receiptOfLessCreditHoldsBack() {
        TransportFour x = Due.settled();
        Due.type(x, 1, 9);
        x.send(0);
        x.tick(4);
        DUE.is("allowed", x.told(0, 6), 2 + 4);
        sendEmpty(x, 0, 5);
        DUE.is("next number", x.told(0, 3), 6);
    }

    /** Message 0, 1 is there, 2 is lost; with credit 4 the numbers 3 to 5 are kept, and 6 is not. */
    private static void dataBelowExpectedAndCreditIsKept() {
        TransportFour x = Due.settled();
        Due.lose(x, 5, 1);
        Due.type(x, 1, 9);
        x.send(0);
        sendEmpty(x, 0, 5);
        DUE.is("next number", x.told(0, 3), 6);
        x.tick(4);
        DUE.is("next number with RECEIPT 1, 6", x.told(0, 3), 7);
        DUE.told(x, 1, 2, 1, 1, 0, 2, 4, 6, 1);
        x.tick(2);
        DUE.told(x, 1, 2, 1, 1, 0, 2, 4, 6, 1);
        DUE.unit(x, x.sent() - 1, Due.receiptUnit(1, 2, 4));
        x.tick(2);
        DUE.unit(x, x.sent() - 4, Due.dataUnit(1, 2, true));
        // DATA 6, sent at 10, goes again at 18 and comes at 20: 2 alone comes at 16, with 3 to 5 once more.
        x.tick(2);
        DUE.told(x, 1, 2, 1, 1, 0, 6, 0, 6, 5);
    }

    private static void expectedDataWithoutCreditIsNotKept() {
        TransportFour x = Due.settled();
        Due.typeWhole(x);
        x.send(0);
        x.send(0);
        x.tick(6);
        DUE.told(x, 1, 2, 1, 1, 0, 8, 0, 6, 1);
        DUE.told(x, 0, 2, 1, 1, 9);
        DUE.unit(x, x.sent() - 1, Due.receiptUnit(1, 8, 0));
        DUE.unit(x, x.sent() - 2, Due.receiptUnit(1, 8, 0));
    }

    /** "For each DATA, whatever was done with it, a RECEIPT is sent". */
    private static void oldDataIsNotKeptButGetsReceipt() {
        TransportFour x = Due.settled();
        x.fault(Due.DOUBLED, 3, 0, 0);
        x.type(1, 1);
        x.send(0);
        x.send(0);
        x.tick(3);
        DUE.told(x, 1, 2, 1, 1, 0, 2, 4, 6, 2);
        DUE.is("sent", x.sent(), 8);
        DUE.unit(x, 7, Due.receiptUnit(1, 2, 4));
        DUE.is("take", x.take(1), 1);
        DUE.is("take", x.take(1), 0);
        DUE.is("take", x.take(1), Due.NO);
    }

    /** "is kept (once)": a doubled unit that waits for one before it makes one message. */
    private static void laterDataIsKeptOnce() {
        TransportFour x = Due.settled();
        x.fault(Due.DELAYED, 3, 0, 0);
        x.fault(Due.DOUBLED, 4, 0, 0);
        x.send(0);
        x.type(9, 1);
        x.send(0);
        x.tick(7);
        DUE.told(x, 1, 2, 1, 1, 0, 2, 4, 6, 2);
        DUE.is("take", x.take(1), 0);
        DUE.is("take", x.take(1), 1);
        DUE.is("take", x.take(1), Due.NO);
    }

    /** "what is next then is put behind what came before, and so on": 0 comes behind 1 to 5. */
    private static void whatIsNextIsPutBehind() {
        TransportFour x = Due.settled();
        x.fault(Due.DELAYED, 3, 0, 0);
        Due.type(x, 1, 48);
        x.send(0);
        x.tick(6);
        DUE.told(x, 1, 2, 1, 1, 0, 0, 6, 6, 0);
        x.tick(1);
        DUE.told(x, 1, 2, 1, 1, 0, 6, 0, 6, 1);
        DUE.is("take", x.take(1), 48);
        for (int i = 0; i < 48; i++) {
            DUE.is("byte " + i, x.read(1, i), i + 1);
        }
    }

    /** "a message is there when its last unit is." */
    private static void messageIsThereWithItsLastUnit() {
        TransportFour x = Due.settled();
        Due.lose(x, 4, 1);
        Due.type(x, 1, 9);
        x.send(0);
        x.tick(2);
        DUE.is("messages with one of two units", x.told(1, 7), 0);
        DUE.is("take", x.take(1), Due.NO);
        x.tick(8);
        DUE.is("messages with both", x.told(1, 7), 1);
        DUE.is("take", x.take(1), 9);
    }

    /** "also when a message was taken and the credit was 0 before it." */
    private static void takingAtCredit0SendsReceipt() {
        TransportFour x = Due.settled();
        sendEmpty(x, 0, 6);
        x.tick(4);
        int before = x.sent();
        DUE.is("credit", x.told(1, 5), 0);
        x.take(1);
        DUE.is("sent", x.sent(), before + 1);
        DUE.unit(x, before, Due.receiptUnit(1, 6, 1));
    }

    private static void takingAtCredit1SendsNone() {
        TransportFour x = Due.settled();
        sendEmpty(x, 0, 5);
        x.tick(4);
        int before = x.sent();
        DUE.is("credit", x.told(1, 5), 1);
        for (int i = 0; i < 5; i++) {
            x.take(1);
        }
        DUE.is("sent", x.sent(), before);
        DUE.is("what the peer was told", x.told(0, 6), 6);
    }

    private static void takingSendsNoneWhenNotOpen() {
        for (int ticks = 2; ticks <= 20; ticks += 18) {
            TransportFour x = Due.settled();
            sendEmpty(x, 0, 6);
            x.tick(4);
            x.end(0);
            Due.pass(x, ticks);
            DUE.state(x, 1, ticks == 2 ? Due.FROZEN : Due.CLOSED);
            int before = x.sent();
            DUE.is("take", x.take(1), 0);
            DUE.is("sent", x.sent(), before);
        }
    }

    /** "from the one that the peer expected last on": the same number with more credit counts. */
    private static void receiptOfTheSameNumberCounts() {
        TransportFour x = Due.settled();
        sendEmpty(x, 0, 6);
        x.tick(4);
        DUE.is("allowed", x.told(0, 6), 6);
        x.take(1);
        x.tick(2);
        DUE.is("allowed then", x.told(0, 6), 7);
    }

    /** RECEIPT 1 comes behind RECEIPT 2, with more credit than that: it is left. */
    private static void receiptBelowIsLeft() {
        TransportFour x = Due.settled();
        x.fault(Due.DELAYED, 5, 0, 0);
        Due.type(x, 1, 9);
        x.send(0);
        x.tick(2);
        DUE.unit(x, 5, Due.receiptUnit(1, 1, 6));
        DUE.unit(x, 6, Due.receiptUnit(1, 2, 4));
        x.tick(2);
        DUE.is("allowed", x.told(0, 6), 6);
        x.tick(5);
        DUE.is("allowed then", x.told(0, 6), 6);
        DUE.is("what waits", x.send(0), 1);
        DUE.unit(x, 7, Due.dataUnit(1, 2, true));
    }
}
