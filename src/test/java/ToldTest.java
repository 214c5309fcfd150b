/** Promise 12: what is told of an end. */
public final class ToldTest {
    private static final Due DUE = new Due();

    public static void main(String[] args) {
        wrongInputs();
        endsAreTwoAndThingsAreTen();
        reasonIsTheFirstOne();
        eachThingIsTold();
        thingsStayWhenClosed();
        nextConnectionBeginsAnew();
        DUE.finish();
    }

    private static void wrongInputs() {
        TransportFour x = new TransportFour();
        DUE.is("told(2, 0)", x.told(2, 0), Due.BAD);
        DUE.is("told(-1, 0)", x.told(-1, 0), Due.BAD);
        DUE.is("told(0, -1)", x.told(0, -1), Due.BAD);
        DUE.is("told(0, 10)", x.told(0, 10), Due.BAD);
    }

    private static void endsAreTwoAndThingsAreTen() {
        TransportFour x = Due.settled();
        int[] wrong = {Integer.MIN_VALUE, -1, 10, 11, Integer.MAX_VALUE};
        for (int what : wrong) {
            DUE.is("told(0, " + what + ")", x.told(0, what), Due.BAD);
            DUE.is("told(1, " + what + ")", x.told(1, what), Due.BAD);
        }
        for (int end : Due.NO_ENDS) {
            for (int what = 0; what < 10; what++) {
                DUE.is("told(" + end + ", " + what + ")", x.told(end, what), Due.BAD);
            }
        }
        DUE.told(x, 0, 2, 1, 1, 0, 0, 6, 6, 0, 0, -1);
        DUE.told(x, 1, 2, 1, 1, 0, 0, 6, 6, 0, 0, -1);
    }

    /** "the REASON of the END that it sent or got first": an orderly end that is given up stays orderly. */
    private static void reasonIsTheFirstOne() {
        TransportFour x = Due.settled();
        Due.lose(x, 3, 20);
        x.end(0);
        Due.pass(x, 32);
        DUE.unit(x, x.sent() - 1, Due.endUnit(1, 1, 1));
        DUE.is("reason of the one that ended", x.told(0, 9), 0);

        TransportFour y = Due.settled();
        Due.lose(y, 3, 5);
        y.end(0);
        Due.pass(y, 34);
        DUE.is("reason of the one that got the second END alone", y.told(1, 9), 1);
    }

    private static void sendSome(TransportFour x) {
        x.send(0);
        x.type(1, 8);
        x.type(1, 8);
        x.send(0);
        x.urge(0, 3);
        x.tick(4);
        x.send(1);
        x.tick(4);
    }

    private static void eachThingIsTold() {
        TransportFour x = Due.settled();
        sendSome(x);
        DUE.told(x, 0, 2, 1, 1, 3, 1, 5, 6, 1, 0, -1);
        DUE.told(x, 1, 2, 1, 1, 1, 3, 3, 6, 2, 1, -1);
    }

    private static void thingsStayWhenClosed() {
        TransportFour x = Due.settled();
        sendSome(x);
        x.end(1);
        Due.pass(x, 20);
        DUE.told(x, 0, 0, 1, 1, 3, 1, 5, 6, 1, 0, 0);
        DUE.told(x, 1, 0, 1, 1, 1, 3, 3, 6, 2, 1, 0);
    }

    private static void nextConnectionBeginsAnew() {
        TransportFour x = Due.settled();
        sendSome(x);
        x.end(1);
        Due.pass(x, 20);
        x.call(0);
        DUE.told(x, 0, 1, 2, 0, 0, 0, 6, 0, 0, 0, -1);
        DUE.told(x, 1, 0, 1, 1, 1, 3, 3, 6, 2, 1, 0);
        x.tick(2);
        DUE.told(x, 1, 2, 2, 2, 0, 0, 6, 6, 0, 0, -1);
        x.tick(2);
        DUE.told(x, 0, 2, 2, 2, 0, 0, 6, 6, 0, 0, -1);
        x.send(0);
        DUE.unit(x, x.sent() - 1, Due.dataUnit(2, 0, true));
        x.tick(2);
        DUE.is("expected number", x.told(1, 4), 1);
    }
}
