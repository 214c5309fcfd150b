/** Promises 5 and 9: urgent bytes. */
public final class UrgeTest {
    private static final Due DUE = new Due();

    public static void main(String[] args) {
        wrongInputs();
        onlyAnOpenEndUrges();
        bytesAre0To255();
        wrongByteIsBadInEachState();
        eachEndHasEightOfItsOwn();
        noUrgentByteIsNo();
        oneGoesAtATime();
        eightMayWait();
        lostOneIsSentAgain();
        receiptAgainIsNotPutAgain();
        urgentIsGivenUp();
        urgentGoesBesideDataWithoutCredit();
        bytesStayTillTheNextConnection();
        nextConnectionBeginsAnew();
        numbersGoRound();
        asManyAs512CallsLetComeStay();
        DUE.finish();
    }

    private static void wrongInputs() {
        TransportFour x = new TransportFour();
        DUE.is("urge(0, 1) when CLOSED", x.urge(0, 1), Due.NO);
        DUE.is("urge(0, 256) when CLOSED", x.urge(0, 256), Due.BAD);
        DUE.is("urgent(0) when none", x.urgent(0), Due.NO);
        DUE.is("urgent(2)", x.urgent(2), Due.BAD);
        DUE.is("urgent(-1)", x.urgent(-1), Due.BAD);
        x.call(0);
        DUE.is("urge when CALLING", x.urge(0, 1), Due.NO);
        x.tick(4);
        DUE.is("urge(2, 1)", x.urge(2, 1), Due.BAD);
        DUE.is("urge(0, 256)", x.urge(0, 256), Due.BAD);
        DUE.is("urge(0, -1)", x.urge(0, -1), Due.BAD);
        DUE.is("urge(0, 255)", x.urge(0, 255), 1);
        DUE.is("urge(1, 0)", x.urge(1, 0), 1);
        x.end(0);
        DUE.is("urge when CLOSING", x.urge(0, 1), Due.NO);
    }

    private static void onlyAnOpenEndUrges() {
        for (int end = 0; end < 2; end++) {
            for (int state = Due.CLOSED; state <= Due.FROZEN; state++) {
                TransportFour x = Due.inState(end, state);
                DUE.is("urge(" + end + ", 1) in state " + state, x.urge(end, 1), state == Due.OPEN ? 1 : Due.NO);
            }
        }
        TransportFour y = Due.settled();
        for (int end : Due.NO_ENDS) {
            DUE.is("urge(" + end + ", 1)", y.urge(end, 1), Due.BAD);
            DUE.is("urgent(" + end + ")", y.urgent(end), Due.BAD);
        }
    }

    /** "An urgent byte (0 .. 255)": 0 that is taken is not NO. */
    private static void bytesAre0To255() {
        int[] bytes = {0, 1, 127, 128, 254, 255};
        TransportFour x = Due.settled();
        for (int i = 0; i < bytes.length; i++) {
            DUE.is("urge(0, " + bytes[i] + ")", x.urge(0, bytes[i]), i + 1);
        }
        for (int b : new int[] {Integer.MIN_VALUE, -256, -1, 256, 257, Integer.MAX_VALUE}) {
            DUE.is("urge(0, " + b + ")", x.urge(0, b), Due.BAD);
        }
        Due.pass(x, 26);
        DUE.is("urgent bytes there", x.told(1, 8), bytes.length);
        for (int b : bytes) {
            DUE.is("urgent(1)", x.urgent(1), b);
        }
        DUE.is("urgent(1)", x.urgent(1), Due.NO);
    }

    private static void wrongByteIsBadInEachState() {
        for (int state = Due.CLOSED; state <= Due.FROZEN; state++) {
            DUE.is("urge(0, -1) in state " + state, Due.inState(0, state).urge(0, -1), Due.BAD);
            DUE.is("urge(0, 256) in state " + state, Due.inState(0, state).urge(0, 256), Due.BAD);
        }
    }

    private static void eachEndHasEightOfItsOwn() {
        TransportFour x = Due.settled();
        for (int i = 1; i <= 8; i++) {
            DUE.is("urge(0, " + i + ")", x.urge(0, i), i);
            DUE.is("urge(1, " + i + ")", x.urge(1, i), i);
        }
        DUE.is("urge(0, 9)", x.urge(0, 9), Due.FULL);
        DUE.is("urge(1, 9)", x.urge(1, 9), Due.FULL);
        x.tick(3);
        DUE.is("urge(0, 9) before the receipt", x.urge(0, 9), Due.FULL);
        x.tick(1);
        DUE.is("urge(0, 9) behind the receipt", x.urge(0, 9), 8);
        DUE.is("urge(0, 10)", x.urge(0, 10), Due.FULL);
    }

    private static void noUrgentByteIsNo() {
        TransportFour x = Due.settled();
        x.urge(0, 3);
        x.tick(1);
        DUE.is("urgent before it came", x.urgent(1), Due.NO);
        x.tick(1);
        DUE.is("urgent when it came", x.urgent(1), 3);
        DUE.is("urgent when it was taken", x.urgent(1), Due.NO);
        DUE.is("urgent bytes there", x.told(1, 8), 0);
    }

    private static void oneGoesAtATime() {
        TransportFour x = Due.settled();
        DUE.is("first", x.urge(0, 10), 1);
        DUE.is("second", x.urge(0, 11), 2);
        DUE.unit(x, 3, Due.urgentUnit(1, 0, 10));
        DUE.is("sent", x.sent(), 4);
        x.tick(2);
        DUE.unit(x, 4, Due.urgentReceiptUnit(1, 1));
        DUE.is("urgent bytes there", x.told(1, 8), 1);
        x.tick(2);
        DUE.unit(x, 5, Due.urgentUnit(1, 1, 11));
        DUE.is("the first waits no more", x.urge(0, 12), 2);
        x.tick(6);
        DUE.is("urgent bytes there", x.told(1, 8), 3);
        DUE.is("taken", x.urgent(1), 10);
        DUE.is("taken", x.urgent(1), 11);
        DUE.is("taken", x.urgent(1), 12);
        DUE.is("no more", x.urgent(1), Due.NO);
        DUE.is("none at the other end", x.urgent(0), Due.NO);
    }

    private static void eightMayWait() {
        TransportFour x = Due.settled();
        for (int i = 1; i <= 8; i++) {
            DUE.is("urge", x.urge(1, i), i);
        }
        DUE.is("the ninth", x.urge(1, 9), Due.FULL);
        DUE.is("BAD before FULL", x.urge(1, 300), Due.BAD);
        x.tick(4);
        DUE.is("room again", x.urge(1, 9), 8);
        Due.pass(x, 40);
        for (int i = 1; i <= 9; i++) {
            DUE.is("taken", x.urgent(0), i);
        }
    }

    private static void lostOneIsSentAgain() {
        TransportFour x = Due.settled();
        x.fault(Due.LOST, 3, 0, 1);
        x.urge(0, 77);
        x.tick(7);
        DUE.is("sent at 13", x.sent(), 4);
        x.tick(1);
        DUE.unit(x, 4, Due.urgentUnit(1, 0, 77));
        x.tick(2);
        DUE.is("taken", x.urgent(1), 77);
    }

    private static void receiptAgainIsNotPutAgain() {
        TransportFour x = Due.settled();
        x.fault(Due.LOST, 4, 0, 1);
        x.urge(0, 5);
        x.tick(10);
        DUE.unit(x, 6, Due.urgentReceiptUnit(1, 1));
        DUE.is("put once", x.told(1, 8), 1);
        x.tick(2);
        DUE.is("waits no more", x.urge(0, 6), 1);
        DUE.unit(x, 7, Due.urgentUnit(1, 1, 6));
    }

    private static void urgentIsGivenUp() {
        TransportFour x = Due.settled();
        for (int number = 3; number < 20; number++) {
            x.fault(Due.LOST, number, 0, 1);
        }
        x.urge(1, 5);
        Due.pass(x, 31);
        DUE.state(x, 1, 2);
        x.tick(1);
        DUE.state(x, 1, 4);
        DUE.is("reason", x.told(1, 9), 1);
        DUE.unit(x, x.sent() - 1, Due.endUnit(1, 1, 1));
    }

    private static void urgentGoesBesideDataWithoutCredit() {
        TransportFour x = Due.settled();
        for (int i = 0; i < 7; i++) {
            x.send(0);
        }
        x.tick(4);
        DUE.is("no credit", x.told(1, 5), 0);
        x.urge(0, 200);
        x.tick(2);
        DUE.is("urgent byte", x.urgent(1), 200);
    }

    private static void bytesStayTillTheNextConnection() {
        TransportFour x = Due.settled();
        x.urge(0, 1);
        x.tick(4);
        x.urge(0, 2);
        x.tick(4);
        x.end(0);
        Due.pass(x, 16);
        DUE.state(x, 1, 0);
        DUE.is("there", x.told(1, 8), 2);
        DUE.is("taken when CLOSED", x.urgent(1), 1);
        x.call(0);
        x.tick(2);
        DUE.is("gone", x.told(1, 8), 0);
        DUE.is("none to take", x.urgent(1), Due.NO);
        x.tick(4);
        x.urge(0, 3);
        DUE.unit(x, x.sent() - 1, Due.urgentUnit(2, 0, 3));
    }

    /** One urgent byte is under way, and two wait behind it, when the peer ends: none goes in the next connection. */
    private static void nextConnectionBeginsAnew() {
        TransportFour x = Due.settled();
        x.urge(0, 1);
        x.tick(4);
        Due.lose(x, x.sent(), 1);
        x.urge(0, 2);
        x.urge(0, 3);
        x.urge(0, 4);
        x.end(1);
        Due.pass(x, 20);
        x.call(1);
        x.tick(6);
        int before = x.sent();
        x.tick(12);
        DUE.is("nothing is sent by itself", x.sent(), before);
        DUE.is("urge(0, 5)", x.urge(0, 5), 1);
        DUE.unit(x, before, Due.urgentUnit(2, 0, 5));
        x.tick(2);
        DUE.unit(x, before + 1, Due.urgentReceiptUnit(2, 1));
        DUE.is("urgent(1)", x.urgent(1), 5);
    }

    /** 8 urgent bytes take 10 calls: 50 times that is nearly all for which an object is used. */
    private static void asManyAs512CallsLetComeStay() {
        TransportFour x = Due.settled();
        for (int i = 0; i < 50; i++) {
            for (int k = 0; k < 8; k++) {
                x.urge(1, (8 * i + k) % 256);
            }
            x.tick(20);
            x.tick(12);
        }
        DUE.is("urgent bytes there", x.told(0, 8), 400);
        DUE.is("the first", x.urgent(0), 0);
        DUE.is("the second", x.urgent(0), 1);
        DUE.is("what is left", x.told(0, 8), 398);
    }

    private static void numbersGoRound() {
        TransportFour x = Due.opened();
        for (int i = 0; i < 130; i++) {
            x.urge(1, i);
            x.tick(4);
            DUE.is("urgent byte " + i, x.urgent(0), i);
        }
        x.urge(1, 9);
        DUE.unit(x, x.sent() - 1, Due.urgentUnit(1, 2, 9));
    }
}
