/** Promise 10: the net's faults. */
public final class FaultTest {
    private static final Due DUE = new Due();

    public static void main(String[] args) {
        wrongInputs();
        sixtyMayBeTold();
        lostOne();
        doubledOne();
        delayedOne();
        delayedAndDoubled();
        lostBeforeOthers();
        spoiledOne();
        spoiledOneStaysGoodBetween0And255();
        placeIsModuloLength();
        laterSpoilingHolds();
        bothOfADoubledOneAreSpoiled();
        anyOtherSpoilingIsFound();
        DUE.finish();
    }

    private static void wrongInputs() {
        TransportFour x = new TransportFour();
        DUE.is("kind 0", x.fault(0, 0, 0, 1), Due.BAD);
        DUE.is("kind 5", x.fault(5, 0, 0, 1), Due.BAD);
        DUE.is("number -1", x.fault(1, -1, 0, 1), Due.BAD);
        DUE.is("place -1", x.fault(4, 0, -1, 1), Due.BAD);
        DUE.is("mask 0", x.fault(4, 0, 0, 0), Due.BAD);
        DUE.is("mask 256", x.fault(4, 0, 0, 256), Due.BAD);
        DUE.is("place and mask are for 4 alone", x.fault(3, 900, -1, 0), 1);
        x.call(0);
        DUE.is("number that was given", x.fault(1, 0, 0, 1), Due.BAD);
        DUE.is("the next number", x.fault(1, 1, 0, 1), 2);
        DUE.is("the same again", x.fault(1, 1, 0, 1), 3);
        DUE.is("a far number", x.fault(4, Integer.MAX_VALUE, Integer.MAX_VALUE, 255), 4);
    }

    private static void sixtyMayBeTold() {
        TransportFour x = new TransportFour();
        for (int i = 1; i <= 60; i++) {
            DUE.is("fault", x.fault(2, i, 0, 1), i);
        }
        DUE.is("one more", x.fault(1, 100, 0, 1), Due.FULL);
        DUE.is("BAD before FULL", x.fault(0, 100, 0, 1), Due.BAD);
    }

    private static void lostOne() {
        TransportFour x = new TransportFour();
        x.fault(Due.LOST, 0, 0, 1);
        x.call(0);
        x.tick(7);
        DUE.state(x, 1, 0);
        DUE.is("it was sent all the same", x.sent(), 1);
        DUE.unit(x, 0, Due.callUnit(1));
    }

    private static void doubledOne() {
        TransportFour x = Due.settled();
        x.fault(Due.DOUBLED, 3, 0, 1);
        x.fault(Due.DOUBLED, 3, 0, 1);
        x.send(0);
        x.tick(2);
        DUE.is("one RECEIPT", x.sent(), 5);
        x.tick(1);
        DUE.is("two RECEIPTs", x.sent(), 6);
        x.tick(4);
        DUE.is("no third", x.sent(), 6);
        DUE.is("one message", x.told(1, 7), 1);
    }

    private static void delayedOne() {
        TransportFour x = new TransportFour();
        x.fault(Due.DELAYED, 0, 0, 1);
        x.call(0);
        x.tick(6);
        DUE.state(x, 1, 0);
        x.tick(1);
        DUE.state(x, 1, 2);
        DUE.is("sent", x.sent(), 2);
    }

    private static void delayedAndDoubled() {
        TransportFour x = Due.settled();
        x.fault(Due.DOUBLED, 3, 0, 1);
        x.fault(Due.DELAYED, 3, 0, 1);
        x.urge(0, 4);
        x.tick(6);
        DUE.is("sent at 12", x.sent(), 4);
        x.tick(1);
        DUE.is("sent at 13", x.sent(), 5);
        x.tick(1);
        DUE.is("sent at 14, the URGENT again too", x.sent(), 7);
        DUE.unit(x, 5, Due.urgentReceiptUnit(1, 1));
        DUE.unit(x, 6, Due.urgentUnit(1, 0, 4));
    }

    private static void lostBeforeOthers() {
        TransportFour x = new TransportFour();
        x.fault(Due.DOUBLED, 0, 0, 1);
        x.fault(Due.LOST, 0, 0, 1);
        x.fault(Due.DELAYED, 0, 0, 1);
        x.call(0);
        x.tick(9);
        DUE.state(x, 1, 0);
    }

    private static void spoiledOne() {
        TransportFour x = Due.settled();
        x.fault(Due.SPOILED, 3, 9, 1);
        x.type(0, 1);
        x.send(0);
        DUE.unit(x, 3, Due.dataUnit(1, 0, true, 0));
        x.tick(2);
        DUE.told(x, 1, 2, 1, 1, 0, 0, 6, 6, 0);
        DUE.is("no RECEIPT for a bad one", x.sent(), 4);
        x.tick(8);
        DUE.is("the second sending is not spoiled", x.take(1), 1);
    }

    private static void spoiledOneStaysGoodBetween0And255() {
        TransportFour x = Due.settled();
        x.fault(Due.SPOILED, 3, 9, 255);
        x.fault(Due.SPOILED, 4, 9, 255);
        x.type(0, 1);
        x.send(0);
        x.type(255, 1);
        x.send(0);
        DUE.unit(x, 3, Due.dataUnit(1, 0, true, 0));
        x.tick(2);
        x.take(1);
        DUE.is("read", x.read(1, 0), 255);
        x.take(1);
        DUE.is("read", x.read(1, 0), 0);
    }

    private static void placeIsModuloLength() {
        TransportFour x = Due.settled();
        x.fault(Due.SPOILED, 3, 10 * 7 + 9, 255);
        x.type(0, 1);
        x.send(0);
        x.tick(2);
        x.take(1);
        DUE.is("read", x.read(1, 0), 255);
    }

    private static void laterSpoilingHolds() {
        TransportFour x = Due.settled();
        x.fault(Due.SPOILED, 3, 9, 7);
        x.fault(Due.SPOILED, 3, 10, 255);
        x.type(0, 2);
        x.send(0);
        x.tick(2);
        DUE.is("take", x.take(1), 2);
        DUE.is("read", x.read(1, 0), 0);
        DUE.is("read", x.read(1, 1), 255);
    }

    private static void bothOfADoubledOneAreSpoiled() {
        TransportFour x = Due.settled();
        x.fault(Due.DOUBLED, 3, 0, 1);
        x.fault(Due.SPOILED, 3, 1, 64);
        x.send(0);
        x.tick(4);
        DUE.is("none was good", x.sent(), 4);
    }

    /** Each byte of a CALL, spoiled by a mask that does not swap 0 and 255, makes it bad. */
    private static void anyOtherSpoilingIsFound() {
        for (int place = 0; place < 11; place++) {
            for (int mask = 1; mask <= 254; mask += 11) {
                TransportFour x = new TransportFour();
                x.fault(Due.SPOILED, 0, place, mask);
                x.call(0);
                x.tick(3);
                DUE.is("spoiled at " + place + " by " + mask, x.told(1, 0), 0);
            }
        }
    }
}
