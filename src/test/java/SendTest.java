/** Promises 3 and 4: the tape, and how its messages go as far as credit and receipts let them. */
public final class SendTest {
    private static final Due DUE = new Due();

    public static void main(String[] args) {
        typeTakesOneToEight();
        tapeTakesTheLowestBytes();
        tapeIsFullAt64();
        tapeMayHave64AndNoMore();
        sendNeedsAnOpenEnd();
        onlyAnOpenEndSends();
        tapeStaysWhenRefused();
        tapeIsEmptyThen();
        messageGoesInPieces();
        eachLengthComesAsItWas();
        fortyUnitsMayWait();
        fortyUnitsMayWaitAndNoMore();
        receiptsMakeRoom();
        eachEndHasFortyOfItsOwn();
        creditHoldsBack();
        dataIsSentAgainByItsOrder();
        dataIsGivenUp();
        othersAreSentAgainInTheTickOfGivingUp();
        receiptOutsideIsLeft();
        keptOnceAndPutInOrder();
        spoiledNumberIsAnotherOne();
        spoiledNumberIsKeptOnce();
        DUE.finish();
    }

    /** "BAD when n is not 1 .. 8". */
    private static void typeTakesOneToEight() {
        TransportFour x = new TransportFour();
        for (int n : new int[] {Integer.MIN_VALUE, -8, -1, 0, 9, 10, 64, Integer.MAX_VALUE}) {
            DUE.is("type " + n, x.type(-1L, n), Due.BAD);
        }
        int length = 0;
        for (int n = 1; n <= 8; n++) {
            length += n;
            DUE.is("type " + n, x.type(-1L, n), length);
        }
        for (int n = 1; n <= 8; n++) {
            lowestBytesAreTaken(n);
        }
    }

    /** "The lowest n bytes of bytes, the highest of them first, come behind the tape". */
    private static void lowestBytesAreTaken(int n) {
        TransportFour x = Due.settled();
        x.type(0x99, 1);
        x.type(0xf1e2d3c4b5a69788L, n);
        x.send(0);
        x.tick(2);
        DUE.is("take", x.take(1), n + 1);
        DUE.is("what was there before", x.read(1, 0), 0x99);
        for (int i = 1; i <= n; i++) {
            DUE.is("byte " + i + " of " + n, x.read(1, i), (0xf1e2d3c4b5a69788L >>> (8 * (n - i))) & 255);
        }
    }

    private static void tapeTakesTheLowestBytes() {
        TransportFour x = new TransportFour();
        DUE.is("type 0", x.type(1, 0), Due.BAD);
        DUE.is("type 9", x.type(1, 9), Due.BAD);
        DUE.is("type -1", x.type(1, -1), Due.BAD);
        x.call(0);
        x.tick(4);
        DUE.is("type 3", x.type(0x1122334455667788L, 3), 3);
        DUE.is("type 1", x.type(-1L, 1), 4);
        DUE.is("type 8", x.type(0x8001020304050607L, 8), 12);
        DUE.is("send", x.send(0), 2);
        DUE.unit(x, 3, Due.dataUnit(1, 0, false, 0x66, 0x77, 0x88, 255, 0x80, 1, 2, 3));
        DUE.unit(x, 4, Due.dataUnit(1, 1, true, 4, 5, 6, 7));
        DUE.is("tape is empty then", x.type(1, 1), 1);
    }

    private static void tapeIsFullAt64() {
        TransportFour x = new TransportFour();
        for (int i = 1; i <= 7; i++) {
            DUE.is("type", x.type(i, 8), 8 * i);
        }
        DUE.is("type 5", x.type(0, 5), 61);
        DUE.is("type 4 more", x.type(0, 4), Due.FULL);
        DUE.is("type 3 more", x.type(0, 3), 64);
        DUE.is("type 1 more", x.type(0, 1), Due.FULL);
        DUE.is("BAD before FULL", x.type(0, 9), Due.BAD);
    }

    /** "FULL when it would have more than 64": for each n, n behind 64 - n and behind 65 - n. */
    private static void tapeMayHave64AndNoMore() {
        for (int n = 1; n <= 8; n++) {
            TransportFour x = new TransportFour();
            Due.type(x, 0, 64 - n);
            DUE.is("type " + n + " behind " + (64 - n), x.type(0, n), 64);
            TransportFour y = new TransportFour();
            Due.type(y, 0, 65 - n);
            DUE.is("type " + n + " behind " + (65 - n), y.type(0, n), Due.FULL);
            for (int less = n - 1; less >= 1; less--) {
                TransportFour z = new TransportFour();
                Due.type(z, 0, 65 - n);
                DUE.is("type " + less + " behind " + (65 - n), z.type(0, less), 65 - n + less);
            }
        }
    }

    private static void onlyAnOpenEndSends() {
        for (int end = 0; end < 2; end++) {
            for (int state = Due.CLOSED; state <= Due.FROZEN; state++) {
                TransportFour x = Due.inState(end, state);
                DUE.is("send(" + end + ") in state " + state, x.send(end), state == Due.OPEN ? 1 : Due.NO);
            }
        }
        TransportFour y = Due.settled();
        for (int end : Due.NO_ENDS) {
            DUE.is("send(" + end + ")", y.send(end), Due.BAD);
        }
    }

    /** "NO; BAD (the tape stays); FULL .. (the tape stays)": what it holds, too. */
    private static void tapeStaysWhenRefused() {
        TransportFour x = new TransportFour();
        x.type(0x0102, 2);
        DUE.is("send when CLOSED", x.send(0), Due.NO);
        DUE.is("send(2)", x.send(2), Due.BAD);
        x.call(0);
        DUE.is("send when CALLING", x.send(0), Due.NO);
        x.tick(6);
        DUE.is("one byte more", x.type(3, 1), 3);
        x.send(0);
        DUE.unit(x, 3, Due.dataUnit(1, 0, true, 1, 2, 3));

        TransportFour y = Due.settled();
        for (int i = 0; i < 40; i++) {
            y.send(0);
        }
        y.type(0x0102, 2);
        DUE.is("send behind 40", y.send(0), Due.FULL);
        DUE.is("one byte more", y.type(3, 1), 3);
        y.tick(4);
        DUE.is("send when there is room", y.send(0), 35);
        DUE.is("the tape is empty", y.type(1, 1), 1);
        DUE.is("the other end may send it", y.send(1), 1);
        DUE.unit(y, y.sent() - 1, Due.dataUnit(1, 0, true, 1));
    }

    /** "The tape is empty then": the next message has no bytes. */
    private static void tapeIsEmptyThen() {
        TransportFour x = Due.settled();
        Due.typeWhole(x);
        x.send(0);
        DUE.is("type", x.type(9, 1), 1);
        x.send(1);
        x.send(1);
        DUE.unit(x, x.sent() - 2, Due.dataUnit(1, 0, true, 9));
        DUE.unit(x, x.sent() - 1, Due.dataUnit(1, 1, true));
    }

    private static void sendNeedsAnOpenEnd() {
        TransportFour x = new TransportFour();
        x.type(7, 1);
        DUE.is("send(2)", x.send(2), Due.BAD);
        DUE.is("send(-1)", x.send(-1), Due.BAD);
        DUE.is("send when CLOSED", x.send(0), Due.NO);
        x.call(0);
        DUE.is("send when CALLING", x.send(0), Due.NO);
        DUE.is("the tape stays", x.type(8, 1), 2);
        x.tick(4);
        DUE.is("send when OPEN", x.send(1), 1);
        DUE.unit(x, 3, Due.dataUnit(1, 0, true, 7, 8));
        x.end(0);
        DUE.is("send when CLOSING", x.send(0), Due.NO);
        x.tick(2);
        DUE.is("send when FROZEN", x.send(1), Due.NO);
    }

    private static void messageGoesInPieces() {
        TransportFour x = Due.settled();
        DUE.is("empty message", x.send(0), 1);
        DUE.unit(x, 3, Due.dataUnit(1, 0, true));
        x.type(0, 8);
        DUE.is("8 bytes", x.send(0), 2);
        DUE.unit(x, 4, Due.dataUnit(1, 1, true, 0, 0, 0, 0, 0, 0, 0, 0));
        x.type(0x0102030405060708L, 8);
        x.type(9, 1);
        DUE.is("9 bytes", x.send(0), 4);
        DUE.unit(x, 5, Due.dataUnit(1, 2, false, 1, 2, 3, 4, 5, 6, 7, 8));
        DUE.unit(x, 6, Due.dataUnit(1, 3, true, 9));
        x.tick(2);
        DUE.told(x, 1, 2, 1, 1, 0, 4, 2, 6, 3);
        DUE.unit(x, 7, Due.receiptUnit(1, 1, 5));
        DUE.unit(x, 8, Due.receiptUnit(1, 2, 4));
        DUE.unit(x, 9, Due.receiptUnit(1, 3, 4));
        DUE.unit(x, 10, Due.receiptUnit(1, 4, 2));
        x.tick(2);
        DUE.told(x, 0, 2, 1, 1, 4, 0, 6, 6);
        DUE.is("nothing waits but this", x.send(0), 1);
    }

    /** "in pieces of 8 bytes .. (1 .. 8, or none in the last one of an empty message)". */
    private static void eachLengthComesAsItWas() {
        for (int length = 0; length <= 64; length++) {
            TransportFour x = Due.settled();
            Due.type(x, 100, length);
            int units = length == 0 ? 1 : (length + 7) / 8;
            DUE.is("units of " + length + " bytes", x.send(0), units);
            piecesAreOf(x, length, Math.min(units, 6));
            x.tick(8);
            DUE.is("take of " + length, x.take(1), length);
            for (int i = 0; i < length; i++) {
                DUE.is("byte " + i + " of " + length, x.read(1, i), 100 + i);
            }
            DUE.is("byte behind", x.read(1, length), Due.BAD);
        }
    }

    private static void piecesAreOf(TransportFour x, int length, int units) {
        DUE.is("units sent at once", x.sent() - 3, units);
        for (int unit = 0; unit < units; unit++) {
            int[] body = new int[Math.min(8, length - 8 * unit)];
            for (int i = 0; i < body.length; i++) {
                body[i] = 100 + 8 * unit + i;
            }
            DUE.unit(x, 3 + unit, Due.dataUnit(1, unit, 8 * (unit + 1) >= length, body));
        }
    }

    /** "FULL when there would be more than 40": messages of 1 to 8 units, behind as many as just leave room. */
    private static void fortyUnitsMayWaitAndNoMore() {
        for (int units = 1; units <= 8; units++) {
            TransportFour x = Due.settled();
            TransportFour y = Due.settled();
            for (int i = 0; i < 40 - units; i++) {
                x.send(0);
                y.send(0);
            }
            y.send(0);
            Due.type(x, 0, 8 * units - 7);
            Due.type(y, 0, 8 * units - 7);
            DUE.is(units + " units behind " + (40 - units), x.send(0), 40);
            DUE.is(units + " units behind " + (41 - units), y.send(0), Due.FULL);
        }
    }

    /** Six of 40 were sent; each RECEIPT makes room for one more. */
    private static void receiptsMakeRoom() {
        TransportFour x = Due.settled();
        for (int i = 0; i < 40; i++) {
            x.send(0);
        }
        x.tick(3);
        DUE.is("send before the RECEIPTs", x.send(0), Due.FULL);
        x.tick(1);
        for (int i = 35; i <= 40; i++) {
            DUE.is("send behind the RECEIPTs", x.send(0), i);
        }
        DUE.is("send behind 40", x.send(0), Due.FULL);
    }

    private static void eachEndHasFortyOfItsOwn() {
        TransportFour x = Due.settled();
        for (int i = 1; i <= 40; i++) {
            DUE.is("send(0)", x.send(0), i);
            DUE.is("send(1)", x.send(1), i);
        }
        DUE.is("send(0) behind 40", x.send(0), Due.FULL);
        DUE.is("send(1) behind 40", x.send(1), Due.FULL);
    }

    private static void fortyUnitsMayWait() {
        TransportFour x = Due.settled();
        for (int i = 1; i <= 4; i++) {
            Due.typeWhole(x);
            DUE.is("send", x.send(1), 8 * i);
        }
        for (int i = 0; i < 7; i++) {
            x.type(i, 8);
        }
        DUE.is("send 7 units", x.send(1), 39);
        x.type(0, 8);
        x.type(0, 1);
        DUE.is("2 units are too many", x.send(1), Due.FULL);
        DUE.is("the tape stays", x.type(0, 7), 16);
        DUE.is("the other end has room", x.send(0), 2);
        DUE.is("one more", x.send(1), 40);
        DUE.is("no more, not an empty one", x.send(1), Due.FULL);
        DUE.is("only 6 were sent, and 2 by the other", x.sent(), 3 + 6 + 2);
    }

    private static void creditHoldsBack() {
        TransportFour x = Due.settled();
        for (int i = 1; i <= 8; i++) {
            DUE.is("send", x.send(0), i);
        }
        DUE.is("next number", x.told(0, 3), 6);
        x.tick(4);
        DUE.told(x, 0, 2, 1, 1, 6, 0, 6, 6);
        DUE.told(x, 1, 2, 1, 1, 0, 6, 0, 6, 6);
        int before = x.sent();
        DUE.is("take", x.take(1), 0);
        DUE.unit(x, before, Due.receiptUnit(1, 6, 1));
        DUE.is("take, with credit before", x.take(1), 0);
        DUE.is("no RECEIPT for that", x.sent(), before + 1);
        x.tick(2);
        DUE.is("one more was let go", x.told(0, 3), 7);
        DUE.is("allowed", x.told(0, 6), 7);
        DUE.unit(x, before + 1, Due.dataUnit(1, 6, true));
    }

    private static void dataIsSentAgainByItsOrder() {
        TransportFour x = Due.settled();
        x.fault(Due.LOST, 3, 0, 1);
        x.fault(Due.LOST, 4, 0, 1);
        x.fault(Due.LOST, 5, 0, 1);
        x.urge(0, 9);
        x.send(0);
        x.type(5, 1);
        x.send(0);
        x.tick(7);
        DUE.is("sent at 13", x.sent(), 6);
        x.tick(1);
        DUE.unit(x, 6, Due.dataUnit(1, 0, true));
        DUE.unit(x, 7, Due.dataUnit(1, 1, true, 5));
        DUE.unit(x, 8, Due.urgentUnit(1, 0, 9));
        Due.pass(x, 11);
        DUE.is("sent at 25, 3 receipts more", x.sent(), 12);
        DUE.told(x, 1, 2, 1, 1, 0, 2, 4, 6, 2, 1);
    }

    private static void loseFrom(TransportFour x, int first, int many) {
        for (int number = first; number < first + many; number++) {
            x.fault(Due.LOST, number, 0, 1);
        }
    }

    private static void dataIsGivenUp() {
        TransportFour x = Due.settled();
        loseFrom(x, 3, 20);
        x.send(0);
        x.send(0);
        Due.pass(x, 31);
        DUE.state(x, 0, 2);
        int before = x.sent();
        x.tick(1);
        DUE.told(x, 0, 4, 1, 1, 2, 0, 6, 6, 0, 0, 1);
        DUE.is("sent at 38", x.sent(), before + 1);
        DUE.unit(x, before, Due.endUnit(1, 1, 1));
        x.tick(8);
        DUE.is("nothing that waited is sent", x.told(0, 0), 4);
        DUE.is("sent at 46, a RECEIPT for silence of the other at 42", x.sent(), before + 2);
    }

    private static void othersAreSentAgainInTheTickOfGivingUp() {
        TransportFour x = Due.settled();
        loseFrom(x, 3, 30);
        x.send(0);
        Due.pass(x, 24);
        x.send(0);
        x.tick(7);
        int before = x.sent();
        x.tick(1);
        DUE.unit(x, before, Due.dataUnit(1, 1, true));
        DUE.unit(x, before + 1, Due.endUnit(1, 1, 1));
        DUE.is("sent", x.sent(), before + 2);
    }

    /** A RECEIPT with number 0 is spoiled to 255, which tells 127: not from 0 on to 2. */
    private static void receiptOutsideIsLeft() {
        TransportFour x = Due.settled();
        x.fault(Due.LOST, 3, 0, 1);
        x.fault(Due.SPOILED, 5, 4, 255);
        x.send(0);
        x.send(0);
        x.tick(2);
        DUE.unit(x, 5, Due.receiptUnit(1, 0, 6));
        x.tick(2);
        DUE.told(x, 0, 2, 1, 1, 2, 0, 6, 6);
        x.tick(4);
        x.tick(4);
        DUE.told(x, 0, 2, 1, 1, 2, 0, 6, 6);
        DUE.is("all have receipts", x.send(0), 1);
    }

    private static void keptOnceAndPutInOrder() {
        TransportFour x = Due.settled();
        x.fault(Due.DELAYED, 3, 0, 1);
        x.fault(Due.DOUBLED, 4, 0, 1);
        for (int i = 0; i < 3; i++) {
            x.type(i, 1);
            x.send(0);
        }
        x.tick(3);
        DUE.told(x, 1, 2, 1, 1, 0, 0, 6, 6, 0);
        DUE.is("a RECEIPT for each of 3", x.sent(), 9);
        DUE.unit(x, 8, Due.receiptUnit(1, 0, 6));
        x.tick(4);
        DUE.told(x, 1, 2, 1, 1, 0, 3, 3, 6, 3);
        for (int i = 0; i < 3; i++) {
            DUE.is("take", x.take(1), 1);
            DUE.is("read", x.read(1, 0), i);
        }
        DUE.is("no more", x.take(1), Due.NO);
    }

    /** Number 0 of no last unit is spoiled to 255: number 127, the last one of a message. */
    private static void spoiledNumberIsAnotherOne() {
        TransportFour x = Due.opened();
        for (int i = 0; i < 127; i++) {
            x.send(0);
            x.tick(2);
            x.take(1);
        }
        x.tick(2);
        DUE.is("expected number", x.told(1, 4), 127);
        int first = x.sent();
        x.fault(Due.LOST, first, 0, 1);
        x.fault(Due.SPOILED, first + 1, 4, 255);
        x.type(1, 1);
        x.send(0);
        x.type(0x0202020202020202L, 8);
        x.type(3, 1);
        x.send(0);
        DUE.unit(x, first + 1, Due.dataUnit(1, 0, false, 2, 2, 2, 2, 2, 2, 2, 2));
        x.tick(2);
        DUE.told(x, 1, 2, 1, 1, 0, 0, 5, 6, 1);
        DUE.is("take", x.take(1), 8);
        DUE.is("read", x.read(1, 7), 2);
        x.tick(8);
        DUE.is("take", x.take(1), 9);
        DUE.is("read", x.read(1, 8), 3);
        DUE.is("no more", x.take(1), Due.NO);
    }

    /** What came as 127 is kept while 126 is lost; the true 127, that comes behind it, is not. */
    private static void spoiledNumberIsKeptOnce() {
        TransportFour x = Due.opened();
        for (int i = 0; i < 126; i++) {
            x.send(0);
            x.tick(2);
            x.take(1);
        }
        x.tick(2);
        int first = x.sent();
        x.fault(Due.LOST, first, 0, 1);
        x.fault(Due.DELAYED, first + 1, 0, 1);
        x.fault(Due.SPOILED, first + 2, 4, 255);
        x.type(1, 1);
        x.send(0);
        x.type(7, 1);
        x.send(0);
        x.type(0x0202020202020202L, 8);
        x.type(3, 1);
        x.send(0);
        x.tick(10);
        DUE.told(x, 1, 2, 1, 1, 0, 2, 2, 6, 3);
        DUE.is("126", x.take(1), 1);
        DUE.is("127", x.take(1), 8);
        DUE.is("its byte", x.read(1, 0), 2);
        DUE.is("0 and 1", x.take(1), 9);
    }
}
