/** Promises 13 and 14: the count of units sent, and the record of the last 64. */
public final class RecordTest {
    private static final Due DUE = new Due();

    public static void main(String[] args) {
        countGoesUpWithEachUnit();
        wrongInputs();
        onlyTheLast64AreKept();
        theLast64AreAsTheyWereSent();
        numbersBehindAFullRecord();
        lastByteOfEachKind();
        lostUnitIsRecorded();
        DUE.finish();
    }

    private static void countGoesUpWithEachUnit() {
        TransportFour x = new TransportFour();
        DUE.is("sent", x.sent(), 0);
        x.call(0);
        DUE.is("sent", x.sent(), 1);
        x.tick(2);
        DUE.is("sent", x.sent(), 2);
        x.tick(2);
        DUE.is("sent", x.sent(), 3);
        x.send(0);
        DUE.is("sent", x.sent(), 4);
        x.urge(1, 1);
        DUE.is("sent", x.sent(), 5);
        x.urge(1, 1);
        DUE.is("sent", x.sent(), 5);
    }

    private static void wrongInputs() {
        TransportFour x = Due.opened();
        DUE.is("number -1", x.byteOf(-1, 0), Due.BAD);
        DUE.is("number not given", x.byteOf(3, 0), Due.BAD);
        DUE.is("byte -1", x.byteOf(0, -1), Due.BAD);
        DUE.is("byte behind", x.byteOf(0, 11), Due.BAD);
        DUE.is("byte far behind", x.byteOf(0, Integer.MAX_VALUE), Due.BAD);
        DUE.is("lowest number", x.byteOf(Integer.MIN_VALUE, 0), Due.BAD);
        DUE.is("highest number", x.byteOf(Integer.MAX_VALUE, 0), Due.BAD);
        DUE.is("byte 0", x.byteOf(0, 0), 10);
    }

    /** Each round sends an URGENT and its receipt, so that the numbers of sending are known. */
    private static void onlyTheLast64AreKept() {
        TransportFour x = Due.opened();
        for (int i = 0; i < 30; i++) {
            x.urge(0, i);
            x.tick(4);
        }
        x.urge(0, 30);
        DUE.is("sent", x.sent(), 64);
        DUE.unit(x, 0, Due.callUnit(1));
        x.tick(4);
        DUE.is("sent", x.sent(), 65);
        DUE.is("number 0", x.byteOf(0, 0), Due.BAD);
        DUE.unit(x, 1, Due.answerUnit(1, 1));
    }

    /** 243 units are sent, so that all places of any store were used again: 179 to 242 are the last 64. */
    private static TransportFour manySent() {
        TransportFour x = Due.opened();
        for (int i = 0; i < 120; i++) {
            x.urge(0, i);
            x.tick(4);
        }
        return x;
    }

    private static void theLast64AreAsTheyWereSent() {
        TransportFour x = manySent();
        DUE.is("sent", x.sent(), 243);
        DUE.is("number 178", x.byteOf(178, 0), Due.BAD);
        DUE.is("number 243", x.byteOf(243, 0), Due.BAD);
        for (int i = 88; i < 104; i++) {
            DUE.is("byte 4 of " + (4 + 2 * i), x.byteOf(4 + 2 * i, 4), i + 1);
            DUE.is("byte 9 of " + (5 + 2 * i), x.byteOf(5 + 2 * i, 9), i + 1);
        }
        TransportFour y = manySent();
        for (int i = 112; i < 120; i++) {
            DUE.unit(y, 3 + 2 * i, Due.urgentUnit(1, i, i));
            DUE.unit(y, 4 + 2 * i, Due.urgentReceiptUnit(1, i + 1));
        }
    }

    /** 403 units are sent: a number that is not yet given has no byte of an older unit. */
    private static void numbersBehindAFullRecord() {
        TransportFour x = Due.settled();
        for (int i = 0; i < 25; i++) {
            for (int k = 0; k < 8; k++) {
                x.urge(0, k);
            }
            x.tick(20);
            x.tick(12);
        }
        DUE.is("sent", x.sent(), 403);
        DUE.is("number 402", x.byteOf(402, 0), 8);
        DUE.is("number 403", x.byteOf(403, 0), Due.BAD);
        DUE.is("number 404", x.byteOf(404, 0), Due.BAD);
        DUE.is("number 339", x.byteOf(339, 0), 8);
        DUE.is("number 338", x.byteOf(338, 0), Due.BAD);
        DUE.is("number 0", x.byteOf(0, 0), Due.BAD);
        DUE.is("number -1", x.byteOf(-1, 0), Due.BAD);
    }

    /** "Byte i of a unit": the last byte of each length, and the one behind. */
    private static void lastByteOfEachKind() {
        TransportFour x = Due.settled();
        lastByteIs(x, 0, 10, 223);
        lastByteIs(x, 1, 10, 101);
        lastByteIs(x, 2, 8, 44);
        x.send(0);
        lastByteIs(x, 3, 8, 236);
        x.type(0x0102030405060708L, 8);
        x.send(0);
        lastByteIs(x, 4, 16, 8);
        x.urge(0, 77);
        lastByteIs(x, 5, 9, 77);
        x.end(0);
        lastByteIs(x, 6, 10, 241);
        x.tick(2);
        lastByteIs(x, 10, 9, 31);
    }

    private static void lastByteIs(TransportFour x, int number, int i, int want) {
        DUE.is("byte " + i + " of " + number, x.byteOf(number, i), want);
        DUE.is("byte " + (i + 1) + " of " + number, x.byteOf(number, i + 1), Due.BAD);
        DUE.is("byte -1 of " + number, x.byteOf(number, -1), Due.BAD);
        DUE.is("lowest byte of " + number, x.byteOf(number, Integer.MIN_VALUE), Due.BAD);
    }

    /** A unit that is lost was sent all the same. */
    private static void lostUnitIsRecorded() {
        TransportFour x = new TransportFour();
        Due.lose(x, 0, 1);
        x.call(1);
        x.tick(3);
        DUE.is("sent", x.sent(), 1);
        DUE.unit(x, 0, Due.callUnit(1));
    }
}
