/** Numbers modulo 128: DATA, URGENT and their receipts around 127 and 0. */
public final class WrapTest {
    private static final Due DUE = new Due();

    public static void main(String[] args) {
        numbersGoFrom127To0();
        allowedNumberIsModulo128();
        creditReachesOver127();
        keptDataReachesOver127();
        oneReceiptMayReachOver127();
        oldReceiptBefore0IsLeft();
        oldDataBefore0IsNotKept();
        receiptOf255Counts127();
        receiptOneAboveTheNextIsLeft();
        receiptOneBelowTheExpectedIsLeft();
        lastMarkIsNoPartOfTheNumber();
        urgentNumbersGoFrom127To0();
        urgentOf255IsNotExpected();
        urgentReceiptOf255IsLeft();
        DUE.finish();
    }

    /** End 0 has sent DATA 0 to first - 1, all were taken, and the peer allows 6 more. */
    private static TransportFour at(int first) {
        TransportFour x = Due.settled();
        Due.passEights(x, 0, first / 8);
        if (first % 8 != 0) {
            for (int i = 0; i < first % 8; i++) {
                x.type(i, 8);
            }
            x.send(0);
            x.tick(8);
            x.take(1);
            x.tick(20);
        }
        DUE.is("next number", x.told(0, 3), first);
        DUE.is("expected number", x.told(1, 4), first);
        DUE.is("allowed number", x.told(0, 6), (first + 6) % 128);
        return x;
    }

    /** "numbered from 0 modulo 128". */
    private static void numbersGoFrom127To0() {
        TransportFour x = at(127);
        int first = x.sent();
        x.type(5, 1);
        DUE.is("send", x.send(0), 1);
        DUE.unit(x, first, Due.dataUnit(1, 127, true, 5));
        DUE.is("next number", x.told(0, 3), 0);
        x.tick(2);
        DUE.unit(x, first + 1, Due.receiptUnit(1, 0, 5));
        DUE.is("expected number", x.told(1, 4), 0);
        x.take(1);
        x.tick(2);
        x.type(6, 1);
        DUE.is("send", x.send(0), 1);
        DUE.unit(x, first + 2, Due.dataUnit(1, 0, true, 6));
        DUE.is("next number", x.told(0, 3), 1);
        x.tick(2);
        DUE.unit(x, first + 3, Due.receiptUnit(1, 1, 5));
        DUE.is("take", x.take(1), 1);
        DUE.is("read", x.read(1, 0), 6);
    }

    /** "what the peer allows (its number and credit, modulo 128)": 120 and 6, then 128 and 0, and 6. */
    private static void allowedNumberIsModulo128() {
        TransportFour x = at(120);
        DUE.is("allowed", x.told(0, 6), 126);
        Due.typeWhole(x);
        x.send(0);
        x.tick(4);
        DUE.is("allowed behind RECEIPT 126", x.told(0, 6), 126 + 6 - 128);
        x.tick(4);
        DUE.is("allowed behind RECEIPT 0", x.told(0, 6), 0);
        x.take(1);
        x.tick(2);
        DUE.is("allowed then", x.told(0, 6), 6);
    }

    /** 128 is 0: of 7 units from 124 on, the credit of 6 lets 124 to 1 go. */
    private static void creditReachesOver127() {
        TransportFour x = at(124);
        int first = x.sent();
        for (int i = 1; i <= 7; i++) {
            DUE.is("send", x.send(0), i);
        }
        DUE.is("sent", x.sent(), first + 6);
        for (int i = 0; i < 6; i++) {
            DUE.unit(x, first + i, Due.dataUnit(1, (124 + i) % 128, true));
        }
        DUE.is("next number", x.told(0, 3), 2);
        x.tick(2);
        for (int i = 0; i < 6; i++) {
            DUE.unit(x, first + 6 + i, Due.receiptUnit(1, (125 + i) % 128, 5 - i));
        }
    }

    /** 126 is lost: 127, 0 and 1 are kept, and put behind it when it comes. */
    private static void keptDataReachesOver127() {
        TransportFour x = at(124);
        Due.lose(x, x.sent() + 2, 1);
        for (int i = 0; i < 6; i++) {
            x.type(i, 1);
            x.send(0);
        }
        x.tick(2);
        DUE.is("expected number", x.told(1, 4), 126);
        DUE.unit(x, x.sent() - 1, Due.receiptUnit(1, 126, 4));
        x.tick(8);
        DUE.is("expected number then", x.told(1, 4), 2);
        for (int i = 0; i < 6; i++) {
            DUE.is("take", x.take(1), 1);
            DUE.is("read", x.read(1, 0), i);
        }
    }

    /** Of the RECEIPTs 125 to 2 only the last one comes. */
    private static void oneReceiptMayReachOver127() {
        TransportFour x = at(124);
        int first = x.sent();
        Due.lose(x, first + 6, 5);
        for (int i = 0; i < 6; i++) {
            x.send(0);
        }
        x.tick(4);
        DUE.is("allowed", x.told(0, 6), 2);
        DUE.is("what waits", x.send(0), 1);
        x.tick(4);
        DUE.is("nothing is sent again", x.sent(), first + 12);
    }

    /** RECEIPT 127, of more credit, comes behind RECEIPT 0. */
    private static void oldReceiptBefore0IsLeft() {
        TransportFour x = at(126);
        int first = x.sent();
        x.fault(Due.DELAYED, first + 2, 0, 0);
        Due.type(x, 1, 9);
        x.send(0);
        x.tick(2);
        DUE.unit(x, first + 2, Due.receiptUnit(1, 127, 6));
        DUE.unit(x, first + 3, Due.receiptUnit(1, 0, 4));
        x.tick(2);
        DUE.is("allowed", x.told(0, 6), 4);
        x.tick(5);
        DUE.is("allowed then", x.told(0, 6), 4);
    }

    private static void oldDataBefore0IsNotKept() {
        TransportFour x = at(127);
        int first = x.sent();
        x.fault(Due.DOUBLED, first, 0, 0);
        x.send(0);
        x.send(0);
        x.tick(3);
        DUE.is("messages", x.told(1, 7), 2);
        DUE.is("expected number", x.told(1, 4), 1);
        DUE.unit(x, x.sent() - 1, Due.receiptUnit(1, 1, 4));
    }

    /** "(128 more in these does not count)": RECEIPT 0 comes as 255, which is 127; RECEIPT 127 is lost. */
    private static void receiptOf255Counts127() {
        TransportFour x = at(126);
        int first = x.sent();
        Due.lose(x, first + 2, 1);
        x.fault(Due.SPOILED, first + 3, 4, 255);
        x.send(0);
        x.send(0);
        x.tick(2);
        DUE.unit(x, first + 3, Due.receiptUnit(1, 0, 4));
        x.tick(2);
        DUE.is("allowed", x.told(0, 6), (127 + 4) % 128);
        x.tick(4);
        DUE.is("127 alone is sent again", x.sent(), first + 5);
        DUE.unit(x, first + 4, Due.dataUnit(1, 127, true));
    }

    /** DATA 127, the last one of a message, comes as 0, and then itself: its receiver expects 1. */
    private static void receiptOneAboveTheNextIsLeft() {
        TransportFour x = at(127);
        int first = x.sent();
        x.fault(Due.SPOILED, first, 4, 255);
        x.send(0);
        x.tick(2);
        DUE.is("expected number", x.told(1, 4), 127);
        x.tick(8);
        DUE.is("expected number then", x.told(1, 4), 1);
        DUE.unit(x, first + 3, Due.receiptUnit(1, 1, 5));
        DUE.is("next number", x.told(0, 3), 0);
        int allowed = x.told(0, 6);
        x.tick(2);
        DUE.is("allowed", x.told(0, 6), allowed);
        DUE.is("what waits: 127 and this", x.send(0), 2);
        DUE.is("next number then", x.told(0, 3), 1);
        x.tick(4);
        DUE.is("1 is the next one: all have receipts", x.send(0), 1);
    }

    /** RECEIPT 0 comes as 255, one below the 0 that is expected. */
    private static void receiptOneBelowTheExpectedIsLeft() {
        TransportFour x = Due.settled();
        Due.lose(x, 3, 1);
        x.fault(Due.SPOILED, 5, 4, 255);
        x.send(0);
        x.send(0);
        x.tick(4);
        DUE.is("allowed", x.told(0, 6), 6);
        DUE.is("what waits", x.send(0), 3);
    }

    /** "with 128 more in DATA that is the last one of a MESSAGE": 0 that comes as 255 ends one as 127. */
    private static void lastMarkIsNoPartOfTheNumber() {
        TransportFour x = at(127);
        int first = x.sent();
        Due.lose(x, first, 1);
        x.fault(Due.SPOILED, first + 1, 4, 255);
        x.send(0);
        x.type(0x0707070707070707L, 8);
        x.type(8, 1);
        x.send(0);
        DUE.unit(x, first + 1, Due.dataUnit(1, 0, false, 7, 7, 7, 7, 7, 7, 7, 7));
        x.tick(2);
        DUE.is("take", x.take(1), 8);
        DUE.is("expected number", x.told(1, 4), 0);
    }

    /** End 1 has sent 127 urgent bytes, and 127 receipts came. */
    private static TransportFour urgedTo127() {
        TransportFour x = Due.settled();
        for (int i = 0; i < 127; i++) {
            x.urge(1, i);
            if (i % 8 == 7) {
                x.tick(20);
                x.tick(12);
            }
        }
        x.tick(20);
        x.tick(10);
        DUE.is("urgent bytes there", x.told(0, 8), 127);
        return x;
    }

    /** "URGENT ones, likewise numbered by themselves". */
    private static void urgentNumbersGoFrom127To0() {
        TransportFour x = urgedTo127();
        int first = x.sent();
        x.urge(1, 200);
        x.urge(1, 201);
        x.tick(4);
        DUE.unit(x, first, Due.urgentUnit(1, 127, 200));
        DUE.unit(x, first + 1, Due.urgentReceiptUnit(1, 0));
        DUE.unit(x, first + 2, Due.urgentUnit(1, 0, 201));
        x.tick(2);
        DUE.unit(x, first + 3, Due.urgentReceiptUnit(1, 1));
        DUE.is("urgent bytes there", x.told(0, 8), 129);
        DUE.is("the first one", x.urgent(0), 0);
    }

    /** URGENT 0 comes as 255, which is 127: the expected one is 0. */
    private static void urgentOf255IsNotExpected() {
        TransportFour x = Due.settled();
        x.fault(Due.SPOILED, 3, 4, 255);
        x.urge(0, 9);
        x.tick(2);
        DUE.is("urgent bytes there", x.told(1, 8), 0);
        DUE.unit(x, 4, Due.urgentReceiptUnit(1, 0));
        x.tick(8);
        DUE.is("urgent byte then", x.urgent(1), 9);
    }

    /** URGENT RECEIPT 0 comes as 255, which is 127: not one more than 127. */
    private static void urgentReceiptOf255IsLeft() {
        TransportFour x = urgedTo127();
        int first = x.sent();
        x.fault(Due.SPOILED, first + 1, 4, 255);
        x.urge(1, 9);
        x.tick(4);
        DUE.unit(x, first + 1, Due.urgentReceiptUnit(1, 0));
        DUE.is("what waits", x.urge(1, 10), 2);
        x.tick(4);
        DUE.unit(x, first + 2, Due.urgentUnit(1, 127, 9));
    }
}
