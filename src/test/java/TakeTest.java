/** Promises 7 and 8: messages that are there, taken and read. */
public final class TakeTest {
    private static final Due DUE = new Due();

    public static void main(String[] args) {
        wrongInputs();
        takingIsForTwoEnds();
        noMessageIsNo();
        emptyMessageIsAMessage();
        bytesOfTheMessageTakenLatest();
        nothingTakenHasNoByte();
        refusedTakeKeepsTheLatest();
        messagesAreTakenInOrder();
        unfinishedMessageIsNotThere();
        longMessageTakesAllCredit();
        takingWithoutCreditTellsIt();
        keptUnitsNeedNoMoreCredit();
        dataWithoutCreditIsNotKept();
        closedEndTellsNothing();
        messagesStayTillTheNextConnection();
        nextConnectionKeepsNoUnits();
        nextConnectionHasNoUnfinishedMessage();
        DUE.finish();
    }

    private static void wrongInputs() {
        TransportFour x = new TransportFour();
        DUE.is("take(2)", x.take(2), Due.BAD);
        DUE.is("take(-1)", x.take(-1), Due.BAD);
        DUE.is("take(0)", x.take(0), Due.NO);
        DUE.is("read(0, 0)", x.read(0, 0), Due.BAD);
        DUE.is("read(2, 0)", x.read(2, 0), Due.BAD);
        DUE.is("read(-1, 0)", x.read(-1, 0), Due.BAD);
    }

    private static void takingIsForTwoEnds() {
        TransportFour x = Due.settled();
        x.type(1, 1);
        x.send(0);
        x.type(2, 1);
        x.send(1);
        x.tick(2);
        for (int end : Due.NO_ENDS) {
            DUE.is("take(" + end + ")", x.take(end), Due.BAD);
            DUE.is("read(" + end + ", 0)", x.read(end, 0), Due.BAD);
        }
        DUE.is("take(0)", x.take(0), 1);
        DUE.is("take(1)", x.take(1), 1);
        DUE.is("read(0, 0)", x.read(0, 0), 2);
        DUE.is("read(1, 0)", x.read(1, 0), 1);
    }

    /** "NO when none is": in no state, before one came, and when all were taken. */
    private static void noMessageIsNo() {
        for (int state = Due.CLOSED; state <= Due.FROZEN; state++) {
            DUE.is("take(0) in state " + state, Due.inState(0, state).take(0), Due.NO);
            DUE.is("take(1) in state " + state, Due.inState(1, state).take(1), Due.NO);
        }
        TransportFour x = Due.settled();
        x.send(0);
        x.tick(1);
        DUE.is("take before it came", x.take(1), Due.NO);
        x.tick(1);
        DUE.is("take when it came", x.take(1), 0);
        DUE.is("take when it was taken", x.take(1), Due.NO);
    }

    private static void emptyMessageIsAMessage() {
        TransportFour x = Due.settled();
        x.send(0);
        x.tick(2);
        DUE.told(x, 1, 2, 1, 1, 0, 1, 5, 6, 1);
        DUE.is("take", x.take(1), 0);
        DUE.told(x, 1, 2, 1, 1, 0, 1, 6, 6, 0);
        DUE.is("read(1, 0)", x.read(1, 0), Due.BAD);
    }

    /** "Byte i of the message taken latest at an end; BAD when there is none." */
    private static void bytesOfTheMessageTakenLatest() {
        int[] none = {Integer.MIN_VALUE, -1, 3, 4, 64, Integer.MAX_VALUE};
        TransportFour x = Due.settled();
        Due.type(x, 50, 9);
        x.send(0);
        x.type(0x00ff80, 3);
        x.send(0);
        x.send(0);
        x.tick(2);
        x.take(1);
        DUE.is("read(1, 8)", x.read(1, 8), 58);
        DUE.is("read(1, 9)", x.read(1, 9), Due.BAD);
        x.take(1);
        DUE.is("read(1, 0)", x.read(1, 0), 0);
        DUE.is("read(1, 1)", x.read(1, 1), 255);
        DUE.is("read(1, 2)", x.read(1, 2), 128);
        for (int i : none) {
            DUE.is("read(1, " + i + ")", x.read(1, i), Due.BAD);
        }
        x.take(1);
        DUE.is("read(1, 0) of an empty one", x.read(1, 0), Due.BAD);
    }

    private static void nothingTakenHasNoByte() {
        TransportFour x = Due.settled();
        x.type(5, 1);
        x.send(0);
        x.tick(2);
        DUE.is("read before it is taken", x.read(1, 0), Due.BAD);
        x.take(1);
        DUE.is("read when it is taken", x.read(1, 0), 5);
        DUE.is("read at its sender", x.read(0, 0), Due.BAD);
    }

    private static void refusedTakeKeepsTheLatest() {
        TransportFour x = Due.settled();
        x.type(5, 1);
        x.send(0);
        x.tick(2);
        x.take(1);
        DUE.is("take", x.take(1), Due.NO);
        DUE.is("read", x.read(1, 0), 5);
    }

    private static void messagesAreTakenInOrder() {
        TransportFour x = Due.settled();
        x.type(0x0102030405060708L, 8);
        x.type(0x090a, 2);
        x.send(0);
        x.send(0);
        x.type(0xff00, 2);
        x.send(0);
        x.tick(2);
        DUE.is("there", x.told(1, 7), 3);
        DUE.is("none read before", x.read(1, 0), Due.BAD);
        DUE.is("first", x.take(1), 10);
        for (int i = 0; i < 10; i++) {
            DUE.is("byte " + i, x.read(1, i), i + 1);
        }
        DUE.is("byte 10", x.read(1, 10), Due.BAD);
        DUE.is("byte -1", x.read(1, -1), Due.BAD);
        DUE.is("the other end took none", x.read(0, 0), Due.BAD);
        DUE.is("second", x.take(1), 0);
        DUE.is("byte 0 of an empty one", x.read(1, 0), Due.BAD);
        DUE.is("third", x.take(1), 2);
        DUE.is("none more", x.take(1), Due.NO);
        DUE.is("the latest stays", x.read(1, 0), 255);
        DUE.is("the latest stays", x.read(1, 1), 0);
        DUE.is("there", x.told(1, 7), 0);
    }

    private static void unfinishedMessageIsNotThere() {
        TransportFour x = Due.settled();
        x.fault(Due.LOST, 4, 0, 1);
        x.type(1, 8);
        x.type(2, 8);
        x.send(0);
        x.tick(2);
        DUE.told(x, 1, 2, 1, 1, 0, 1, 6, 6, 0);
        DUE.is("take", x.take(1), Due.NO);
        x.tick(8);
        DUE.told(x, 1, 2, 1, 1, 0, 2, 4, 6, 1);
        DUE.is("take", x.take(1), 16);
        DUE.is("read", x.read(1, 15), 2);
    }

    private static void longMessageTakesAllCredit() {
        TransportFour x = Due.settled();
        Due.typeWhole(x);
        x.send(0);
        x.tick(6);
        DUE.told(x, 1, 2, 1, 1, 0, 8, 0, 6, 1);
        DUE.is("take", x.take(1), 64);
        DUE.is("credit", x.told(1, 5), 6);
        for (int i = 0; i < 64; i++) {
            DUE.is("read " + i, x.read(1, i), i % 8 == 7 ? i / 8 : 0);
        }
        DUE.is("read 64", x.read(1, 64), Due.BAD);
    }

    private static void takingWithoutCreditTellsIt() {
        TransportFour x = Due.settled();
        x.send(0);
        Due.typeWhole(x);
        x.send(0);
        x.tick(6);
        DUE.told(x, 1, 2, 1, 1, 0, 9, 0, 6, 2);
        int before = x.sent();
        DUE.is("take", x.take(1), 0);
        DUE.unit(x, before, Due.receiptUnit(1, 9, 0));
        DUE.is("take", x.take(1), 64);
        DUE.unit(x, before + 1, Due.receiptUnit(1, 9, 6));
        DUE.is("sent", x.sent(), before + 2);
    }

    /** DATA 7 comes behind 8 and 9: these are kept while there is credit, and put when there is none. */
    private static void keptUnitsNeedNoMoreCredit() {
        TransportFour x = Due.settled();
        x.fault(Due.DELAYED, 16, 0, 1);
        Due.typeWhole(x);
        x.send(0);
        x.send(0);
        x.send(0);
        x.tick(6);
        DUE.told(x, 1, 2, 1, 1, 0, 7, 6, 6, 0);
        x.tick(5);
        DUE.told(x, 1, 2, 1, 1, 0, 10, 0, 6, 3);
        int before = x.sent();
        x.take(1);
        DUE.unit(x, before, Due.receiptUnit(1, 10, 4));
        x.take(1);
        x.take(1);
        DUE.is("no RECEIPT with credit before", x.sent(), before + 1);
    }

    /** The same without a delay: when DATA 7 ends the message, 8 finds no credit and is not kept. */
    private static void dataWithoutCreditIsNotKept() {
        TransportFour x = Due.settled();
        Due.typeWhole(x);
        x.send(0);
        x.send(0);
        x.tick(6);
        DUE.told(x, 1, 2, 1, 1, 0, 8, 0, 6, 1);
        DUE.unit(x, x.sent() - 1, Due.receiptUnit(1, 8, 0));
    }

    private static void closedEndTellsNothing() {
        TransportFour x = Due.settled();
        for (int i = 0; i < 6; i++) {
            x.send(0);
        }
        x.tick(4);
        x.end(0);
        x.tick(2);
        DUE.told(x, 1, 4, 1, 1, 0, 6, 0, 6, 6);
        int before = x.sent();
        DUE.is("take when FROZEN", x.take(1), 0);
        DUE.is("sent", x.sent(), before);
        DUE.is("credit", x.told(1, 5), 1);
    }

    private static void messagesStayTillTheNextConnection() {
        TransportFour x = Due.settled();
        x.type(7, 1);
        x.send(0);
        x.type(8, 1);
        x.send(0);
        x.tick(4);
        x.end(1);
        Due.pass(x, 20);
        DUE.state(x, 1, 0);
        DUE.is("there when CLOSED", x.told(1, 7), 2);
        DUE.is("take when CLOSED", x.take(1), 1);
        DUE.is("read", x.read(1, 0), 7);
        x.call(1);
        DUE.told(x, 1, 1, 2, 0, 0, 0, 6, 0, 0, 0, -1);
        DUE.is("take when CALLING", x.take(1), Due.NO);
        DUE.is("the message taken latest stays the end's", x.read(1, 0), 7);
    }

    /** DATA first is lost and the next 5 are kept when the connection ends; none is left for the next one. */
    private static void nextConnectionKeepsNoUnits() {
        for (int first = 0; first < 9; first++) {
            TransportFour x = Due.settled();
            for (int i = 0; i < first; i++) {
                x.send(0);
                x.tick(2);
                x.take(1);
            }
            x.tick(20);
            x.tick(4);
            Due.lose(x, x.sent(), 1);
            for (int i = 0; i < 6; i++) {
                x.type(99, 1);
                x.send(0);
            }
            x.tick(2);
            DUE.is("expected number with " + first + " lost", x.told(1, 4), first);
            x.end(1);
            Due.pass(x, 20);
            x.call(0);
            x.tick(4);
            for (int i = 0; i < 6; i++) {
                x.type(i, 1);
                x.send(0);
            }
            x.tick(2);
            DUE.told(x, 1, 2, 2, 2, 0, 6, 0, 6, 6);
            for (int i = 0; i < 6; i++) {
                DUE.is("take", x.take(1), 1);
                DUE.is("read", x.read(1, 0), i);
            }
        }
    }

    /** DATA 0 of a message of two units is put when the connection ends; it is not put before the next one. */
    private static void nextConnectionHasNoUnfinishedMessage() {
        TransportFour x = Due.settled();
        Due.lose(x, 4, 1);
        Due.type(x, 70, 9);
        x.send(0);
        x.tick(2);
        DUE.told(x, 1, 2, 1, 1, 0, 1, 6, 6, 0);
        x.end(1);
        Due.pass(x, 20);
        x.call(0);
        x.tick(4);
        x.type(9, 1);
        x.send(0);
        x.tick(2);
        DUE.told(x, 1, 2, 2, 2, 0, 1, 5, 6, 1);
        DUE.is("take", x.take(1), 1);
        DUE.is("read", x.read(1, 0), 9);
    }
}
