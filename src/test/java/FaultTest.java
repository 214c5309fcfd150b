/** Promise 10: the net's faults. */
public final class FaultTest {
    private static final Due DUE = new Due();

    public static void main(String[] args) {
        wrongInputs();
        kindsAre1To4();
        numberIsNotYetGiven();
        placeIs0OrMore();
        maskIs1To255();
        sixtyMayBeTold();
        sixtyMayBeToldAndNoMore();
        refusedFaultsDoNotCount();
        arrivalTakesTwoTicks();
        lostOne();
        doubledOne();
        delayedOne();
        delayedAndDoubled();
        lostBeforeOthers();
        spoiledOne();
        spoiledOneStaysGoodBetween0And255();
        placeIsModuloLength();
        placeOfTheLengthIsTheFirst();
        unitIsRecordedAsItWasSent();
        laterSpoilingHolds();
        bothOfADoubledOneAreSpoiled();
        faultIsForItsNumberAlone();
        anyOtherSpoilingIsFound();
        DUE.finish();
    }

    private static void wrongInputs() {
        TransportFour x = new TransportFour();
        DUE.is("kind 0", x.fault(0, 0, 0, 1), Due.BAD);
        DUE.is("kind 5", x.fault(5, 0, 0, 1), Due.BAD);
        DUE.is("number -1", x.fault(1, -1, 0, 1), Due.BAD);
        DUE.is("place -1", x.fault(4, 0, -1, 1), Due.BAD);
        DUE.is("mask 0", x.fault(4, 0, 0, 0), Due.BAD);
        DUE.is("mask 256", x.fault(4, 0, 0, 256), Due.BAD);
        DUE.is("place and mask are for 4 alone", x.fault(3, 900, -1, 0), 1);
        x.call(0);
        DUE.is("number that was given", x.fault(1, 0, 0, 1), Due.BAD);
        DUE.is("the next number", x.fault(1, 1, 0, 1), 2);
        DUE.is("the same again", x.fault(1, 1, 0, 1), 3);
        DUE.is("a far number", x.fault(4, Integer.MAX_VALUE, Integer.MAX_VALUE, 255), 4);
    }

    private static void kindsAre1To4() {
        TransportFour x = new TransportFour();
        int[] wrong = {Integer.MIN_VALUE, -1, 0, 5, 6, Integer.MAX_VALUE};
        for (int kind : wrong) {
            DUE.is("kind " + kind, x.fault(kind, 9, 0, 1), Due.BAD);
        }
        for (int kind = 1; kind <= 4; kind++) {
            DUE.is("kind " + kind, x.fault(kind, 9, 0, 1), kind);
        }
    }

    /** "for a number of sending that was not yet given". */
    private static void numberIsNotYetGiven() {
        for (int kind = 1; kind <= 4; kind++) {
            TransportFour x = new TransportFour();
            DUE.is("number -1", x.fault(kind, -1, 0, 1), Due.BAD);
            DUE.is("lowest number", x.fault(kind, Integer.MIN_VALUE, 0, 1), Due.BAD);
            DUE.is("number 0 before the first unit", x.fault(kind, 0, 0, 1), 1);
            x = Due.settled();
            DUE.is("number 0 of 3", x.fault(kind, 0, 0, 1), Due.BAD);
            DUE.is("number 2 of 3", x.fault(kind, 2, 0, 1), Due.BAD);
            DUE.is("number 3 of 3", x.fault(kind, 3, 0, 1), 1);
            DUE.is("highest number", x.fault(kind, Integer.MAX_VALUE, 0, 1), 2);
        }
    }

    private static void placeIs0OrMore() {
        TransportFour x = new TransportFour();
        DUE.is("place -1", x.fault(4, 0, -1, 1), Due.BAD);
        DUE.is("lowest place", x.fault(4, 0, Integer.MIN_VALUE, 1), Due.BAD);
        DUE.is("place 0", x.fault(4, 0, 0, 1), 1);
        DUE.is("highest place", x.fault(4, 0, Integer.MAX_VALUE, 1), 2);
        for (int kind = 1; kind <= 3; kind++) {
            DUE.is("place -1 for kind " + kind, x.fault(kind, 0, -1, 1), 2 + kind);
        }
    }

    private static void maskIs1To255() {
        TransportFour x = new TransportFour();
        int[] wrong = {Integer.MIN_VALUE, -255, -1, 0, 256, 257, Integer.MAX_VALUE};
        for (int mask : wrong) {
            DUE.is("mask " + mask, x.fault(4, 0, 0, mask), Due.BAD);
        }
        DUE.is("mask 1", x.fault(4, 0, 0, 1), 1);
        DUE.is("mask 255", x.fault(4, 0, 0, 255), 2);
        for (int kind = 1; kind <= 3; kind++) {
            DUE.is("mask 0 for kind " + kind, x.fault(kind, 0, 0, 0), 2 + kind);
            DUE.is("mask 256 for kind " + kind, Due.settled().fault(kind, 3, 0, 256), 1);
        }
    }

    /** "FULL when there are 60": the sixtieth does what it tells, the sixty-first does not. */
    private static void sixtyMayBeToldAndNoMore() {
        TransportFour x = Due.settled();
        for (int i = 1; i <= 59; i++) {
            DUE.is("fault " + i, x.fault(1 + i % 4, 1000 + i, 0, 1), i);
        }
        DUE.is("fault 60", x.fault(Due.LOST, 3, 0, 0), 60);
        DUE.is("fault 61", x.fault(Due.LOST, 4, 0, 0), Due.FULL);
        x.send(0);
        x.send(0);
        x.tick(2);
        DUE.is("the second one alone came", x.sent(), 6);
        DUE.is("messages", x.told(1, 7), 0);
        x.tick(8);
        DUE.is("messages then", x.told(1, 7), 2);
        DUE.is("faults that are over count", x.fault(Due.LOST, 999, 0, 0), Due.FULL);
    }

    private static void refusedFaultsDoNotCount() {
        TransportFour x = new TransportFour();
        DUE.is("one", x.fault(1, 5, 0, 0), 1);
        DUE.is("kind 0", x.fault(0, 5, 0, 0), Due.BAD);
        DUE.is("mask 0", x.fault(4, 5, 0, 0), Due.BAD);
        DUE.is("two", x.fault(1, 5, 0, 0), 2);
    }

    /** "arrives DELAY (2) ticks later". */
    private static void arrivalTakesTwoTicks() {
        TransportFour x = Due.settled();
        x.urge(1, 8);
        x.tick(1);
        DUE.is("urgent one tick later", x.urgent(0), Due.NO);
        x.tick(1);
        DUE.is("urgent two ticks later", x.urgent(0), 8);
    }

    private static void sixtyMayBeTold() {
        TransportFour x = new TransportFour();
        for (int i = 1; i <= 60; i++) {
            DUE.is("fault", x.fault(2, i, 0, 1), i);
        }
        DUE.is("one more", x.fault(1, 100, 0, 1), Due.FULL);
        DUE.is("BAD before FULL", x.fault(0, 100, 0, 1), Due.BAD);
    }

    private static void lostOne() {
        TransportFour x = new TransportFour();
        x.fault(Due.LOST, 0, 0, 1);
        x.call(0);
        x.tick(7);
        DUE.state(x, 1, 0);
        DUE.is("it was sent all the same", x.sent(), 1);
        DUE.unit(x, 0, Due.callUnit(1));
    }

    private static void doubledOne() {
        TransportFour x = Due.settled();
        x.fault(Due.DOUBLED, 3, 0, 1);
        x.fault(Due.DOUBLED, 3, 0, 1);
        x.send(0);
        x.tick(2);
        DUE.is("one RECEIPT", x.sent(), 5);
        x.tick(1);
        DUE.is("two RECEIPTs", x.sent(), 6);
        x.tick(4);
        DUE.is("no third", x.sent(), 6);
        DUE.is("one message", x.told(1, 7), 1);
    }

    private static void delayedOne() {
        TransportFour x = new TransportFour();
        x.fault(Due.DELAYED, 0, 0, 1);
        x.call(0);
        x.tick(6);
        DUE.state(x, 1, 0);
        x.tick(1);
        DUE.state(x, 1, 2);
        DUE.is("sent", x.sent(), 2);
    }

    private static void delayedAndDoubled() {
        TransportFour x = Due.settled();
        x.fault(Due.DOUBLED, 3, 0, 1);
        x.fault(Due.DELAYED, 3, 0, 1);
        x.urge(0, 4);
        x.tick(6);
        DUE.is("sent at 12", x.sent(), 4);
        x.tick(1);
        DUE.is("sent at 13", x.sent(), 5);
        x.tick(1);
        DUE.is("sent at 14, the URGENT again too", x.sent(), 7);
        DUE.unit(x, 5, Due.urgentReceiptUnit(1, 1));
        DUE.unit(x, 6, Due.urgentUnit(1, 0, 4));
    }

    private static void lostBeforeOthers() {
        TransportFour x = new TransportFour();
        x.fault(Due.DOUBLED, 0, 0, 1);
        x.fault(Due.LOST, 0, 0, 1);
        x.fault(Due.DELAYED, 0, 0, 1);
        x.call(0);
        x.tick(9);
        DUE.state(x, 1, 0);
    }

    private static void spoiledOne() {
        TransportFour x = Due.settled();
        x.fault(Due.SPOILED, 3, 9, 1);
        x.type(0, 1);
        x.send(0);
        DUE.unit(x, 3, Due.dataUnit(1, 0, true, 0));
        x.tick(2);
        DUE.told(x, 1, 2, 1, 1, 0, 0, 6, 6, 0);
        DUE.is("no RECEIPT for a bad one", x.sent(), 4);
        x.tick(8);
        DUE.is("the second sending is not spoiled", x.take(1), 1);
    }

    private static void spoiledOneStaysGoodBetween0And255() {
        TransportFour x = Due.settled();
        x.fault(Due.SPOILED, 3, 9, 255);
        x.fault(Due.SPOILED, 4, 9, 255);
        x.type(0, 1);
        x.send(0);
        x.type(255, 1);
        x.send(0);
        DUE.unit(x, 3, Due.dataUnit(1, 0, true, 0));
        x.tick(2);
        x.take(1);
        DUE.is("read", x.read(1, 0), 255);
        x.take(1);
        DUE.is("read", x.read(1, 0), 0);
    }

    private static void placeIsModuloLength() {
        TransportFour x = Due.settled();
        x.fault(Due.SPOILED, 3, 10 * 7 + 9, 255);
        x.type(0, 1);
        x.send(0);
        x.tick(2);
        x.take(1);
        DUE.is("read", x.read(1, 0), 255);
    }

    /** "(modulo its length)": a DATA of two bytes is 11 long; place 11 is its byte 0, place 21 its last one. */
    private static void placeOfTheLengthIsTheFirst() {
        int[] places = {10, 21, 11 * 1000 + 10};
        for (int place : places) {
            TransportFour x = Due.settled();
            x.fault(Due.SPOILED, 3, place, 255);
            x.type(0, 2);
            x.send(0);
            x.tick(2);
            DUE.is("take with place " + place, x.take(1), 2);
            DUE.is("first byte with place " + place, x.read(1, 0), 0);
            DUE.is("last byte with place " + place, x.read(1, 1), 255);
        }
        int[] bad = {0, 11, 22, Integer.MAX_VALUE - Integer.MAX_VALUE % 11};
        for (int place : bad) {
            TransportFour x = Due.settled();
            x.fault(Due.SPOILED, 3, place, 255);
            x.type(0, 2);
            x.send(0);
            x.tick(2);
            DUE.is("take with place " + place, x.take(1), Due.NO);
        }
    }

    private static void unitIsRecordedAsItWasSent() {
        TransportFour x = Due.settled();
        x.fault(Due.SPOILED, 3, 9, 255);
        x.type(0, 1);
        x.send(0);
        DUE.unit(x, 3, Due.dataUnit(1, 0, true, 0));
        x.tick(2);
        DUE.unit(x, 3, Due.dataUnit(1, 0, true, 0));
        x.take(1);
        DUE.is("read", x.read(1, 0), 255);
    }

    private static void laterSpoilingHolds() {
        TransportFour x = Due.settled();
        x.fault(Due.SPOILED, 3, 9, 7);
        x.fault(Due.SPOILED, 3, 10, 255);
        x.type(0, 2);
        x.send(0);
        x.tick(2);
        DUE.is("take", x.take(1), 2);
        DUE.is("read", x.read(1, 0), 0);
        DUE.is("read", x.read(1, 1), 255);
    }

    private static void bothOfADoubledOneAreSpoiled() {
        TransportFour x = Due.settled();
        x.fault(Due.DOUBLED, 3, 0, 1);
        x.fault(Due.SPOILED, 3, 1, 64);
        x.send(0);
        x.tick(4);
        DUE.is("none was good", x.sent(), 4);
    }

    /** Each of units 3 to 6 has a fault; none of the 400 units behind them has one. */
    private static void faultIsForItsNumberAlone() {
        TransportFour x = Due.settled();
        for (int kind = 1; kind <= 4; kind++) {
            x.fault(kind, 2 + kind, 1, 1);
        }
        x.urge(0, 1);
        Due.pass(x, 40);
        DUE.is("urgent bytes behind the faults", x.told(1, 8), 1);
        int before = x.sent();
        for (int i = 0; i < 25; i++) {
            for (int k = 0; k < 8; k++) {
                x.urge(0, k);
            }
            x.tick(20);
            x.tick(12);
        }
        DUE.is("units of 200 urgent bytes", x.sent() - before, 400);
        DUE.is("urgent bytes", x.told(1, 8), 201);
    }

    /** Each byte of a CALL, spoiled by a mask that does not swap 0 and 255, makes it bad. */
    private static void anyOtherSpoilingIsFound() {
        for (int place = 0; place < 11; place++) {
            for (int mask = 1; mask <= 254; mask += 11) {
                TransportFour x = new TransportFour();
                x.fault(Due.SPOILED, 0, place, mask);
                x.call(0);
                x.tick(3);
                DUE.is("spoiled at " + place + " by " + mask, x.told(1, 0), 0);
            }
        }
    }
}
