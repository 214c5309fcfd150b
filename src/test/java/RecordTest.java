/** Promises 13 and 14: the count of units sent, and the record of the last 64. */
public final class RecordTest {
    private static final Due DUE = new Due();

    public static void main(String[] args) {
        countGoesUpWithEachUnit();
        wrongInputs();
        onlyTheLast64AreKept();
        DUE.finish();
    }

    private static void countGoesUpWithEachUnit() {
        TransportFour x = new TransportFour();
        DUE.is("sent", x.sent(), 0);
        x.call(0);
        DUE.is("sent", x.sent(), 1);
        x.tick(2);
        DUE.is("sent", x.sent(), 2);
        x.tick(2);
        DUE.is("sent", x.sent(), 3);
        x.send(0);
        DUE.is("sent", x.sent(), 4);
        x.urge(1, 1);
        DUE.is("sent", x.sent(), 5);
        x.urge(1, 1);
        DUE.is("sent", x.sent(), 5);
    }

    private static void wrongInputs() {
        TransportFour x = Due.opened();
        DUE.is("number -1", x.byteOf(-1, 0), Due.BAD);
        DUE.is("number not given", x.byteOf(3, 0), Due.BAD);
        DUE.is("byte -1", x.byteOf(0, -1), Due.BAD);
        DUE.is("byte behind", x.byteOf(0, 11), Due.BAD);
        DUE.is("byte far behind", x.byteOf(0, Integer.MAX_VALUE), Due.BAD);
        DUE.is("lowest number", x.byteOf(Integer.MIN_VALUE, 0), Due.BAD);
        DUE.is("highest number", x.byteOf(Integer.MAX_VALUE, 0), Due.BAD);
        DUE.is("byte 0", x.byteOf(0, 0), 10);
    }

    /** Each round sends an URGENT and its receipt, so that the numbers of sending are known. */
    private static void onlyTheLast64AreKept() {
        TransportFour x = Due.opened();
        for (int i = 0; i < 30; i++) {
            x.urge(0, i);
            x.tick(4);
        }
        x.urge(0, 30);
        DUE.is("sent", x.sent(), 64);
        DUE.unit(x, 0, Due.callUnit(1));
        x.tick(4);
        DUE.is("sent", x.sent(), 65);
        DUE.is("number 0", x.byteOf(0, 0), Due.BAD);
        DUE.unit(x, 1, Due.answerUnit(1, 1));
        for (int i = 31; i < 120; i++) {
            x.urge(0, i);
            x.tick(4);
        }
        DUE.is("sent", x.sent(), 243);
        DUE.is("number 178", x.byteOf(178, 0), Due.BAD);
        for (int i = 89; i < 120; i++) {
            DUE.unit(x, 3 + 2 * i, Due.urgentUnit(1, i, i));
            DUE.unit(x, 4 + 2 * i, Due.urgentReceiptUnit(1, i + 1));
        }
    }
}
