import java.util.List;

/** The terms UNITS, CHECK and GOOD: how units are written, and which of them count when they arrive. */
public final class UnitTest {
    private static final Due DUE = new Due();

    public static void main(String[] args) {
        eachKindHasItsForm();
        checksAreBelow255();
        checkOf0MayComeAs255();
        checkOf254MayNotComeAs255();
        highestByteOfAReferenceIsFirst();
        spoiledUnitCountsAsLost();
        dataBytesOf0And255MayBeSwapped();
        DUE.finish();
    }

    /** Rows written out, their checks worked out apart from the program by the formula of the document. */
    private static void eachKindHasItsForm() {
        TransportFour x = Due.settled();
        DUE.unit(x, 0, Due.row(10, 230, 0, 0, 0, 1, 64, 195, 2, 40, 223));
        DUE.unit(x, 1, Due.row(10, 214, 0, 1, 0, 1, 64, 195, 2, 177, 101));
        DUE.unit(x, 2, Due.row(8, 102, 0, 1, 0, 195, 2, 158, 44));
        x.send(0);
        DUE.unit(x, 3, Due.row(8, 240, 0, 1, 128, 195, 2, 210, 236));
        x.type(200, 1);
        x.send(0);
        DUE.unit(x, 4, Due.row(8, 240, 0, 1, 129, 195, 2, 151, 94, 200));
        x.urge(0, 9);
        DUE.unit(x, 5, Due.row(8, 16, 0, 1, 0, 195, 2, 4, 20, 9));
        x.tick(2);
        DUE.unit(x, 6, Due.row(8, 101, 0, 1, 1, 195, 2, 161, 41));
        DUE.unit(x, 8, Due.row(8, 32, 0, 1, 1, 195, 2, 134, 137));
        x.end(0);
        DUE.unit(x, 9, Due.row(10, 128, 0, 1, 0, 1, 0, 195, 2, 187, 241));
        x.tick(2);
        DUE.unit(x, 10, Due.row(9, 192, 0, 1, 0, 1, 195, 2, 79, 31));
    }

    private static int sum(TransportFour x, int number, int length) {
        int sum = 0;
        for (int i = 0; i < length; i++) {
            sum += x.byteOf(number, i);
        }
        return sum;
    }

    private static int weightedSum(TransportFour x, int number, int length) {
        int sum = 0;
        for (int i = 0; i < length; i++) {
            sum += (length - i) * x.byteOf(number, i);
        }
        return sum;
    }

    /** A message of one byte, sent as unit 3: its checks are bytes 7 and 8. */
    private static TransportFour oneByte(int b) {
        TransportFour x = Due.settled();
        x.type(b, 1);
        x.send(0);
        return x;
    }

    /** "modulo 255 (0 .. 254)". */
    private static void checksAreBelow255() {
        int[] lowest = {999, 999};
        int[] highest = {-1, -1};
        for (int b = 0; b < 256; b++) {
            TransportFour x = oneByte(b);
            DUE.is("c with byte " + b, sum(x, 3, 10) % 255, 0);
            DUE.is("e with byte " + b, weightedSum(x, 3, 10) % 255, 0);
            for (int i = 0; i < 2; i++) {
                lowest[i] = Math.min(lowest[i], x.byteOf(3, 7 + i));
                highest[i] = Math.max(highest[i], x.byteOf(3, 7 + i));
            }
        }
        for (int i = 0; i < 2; i++) {
            DUE.is("lowest of check " + i, lowest[i], 0);
            DUE.is("highest of check " + i, highest[i], 254);
        }
    }

    /** The byte with which one of the checks is that. */
    private static int byteWithCheck(int place, int check) {
        for (int b = 0; b < 256; b++) {
            if (oneByte(b).byteOf(3, place) == check) {
                return b;
            }
        }
        DUE.isTrue("some byte gives check " + check + " at " + place, false);
        return 0;
    }

    private static TransportFour withSpoiledCheck(int b, int place, int mask) {
        TransportFour x = Due.settled();
        x.fault(Due.SPOILED, 3, place, mask);
        x.type(b, 1);
        x.send(0);
        x.tick(2);
        return x;
    }

    /** "with its checks c and e leave 0 modulo 255": 255 leaves the same as 0. */
    private static void checkOf0MayComeAs255() {
        for (int place = 7; place <= 8; place++) {
            int b = byteWithCheck(place, 0);
            TransportFour x = withSpoiledCheck(b, place, 255);
            DUE.is("a check of 255 for 0 at " + place, x.take(1), 1);
            DUE.is("its byte", x.read(1, 0), b);
            DUE.is("a check of 254 for 0 at " + place, withSpoiledCheck(b, place, 254).take(1), Due.NO);
            DUE.is("a check of 1 for 0 at " + place, withSpoiledCheck(b, place, 1).take(1), Due.NO);
        }
    }

    private static void checkOf254MayNotComeAs255() {
        for (int place = 7; place <= 8; place++) {
            int b = byteWithCheck(place, 254);
            DUE.is("a check of 255 for 254 at " + place, withSpoiledCheck(b, place, 1).take(1), Due.NO);
            DUE.is("a check of 0 for 254 at " + place, withSpoiledCheck(b, place, 254).take(1), Due.NO);
        }
    }

    /** "the reference of the end to which it goes, highest byte first": 1 is spoiled to 255 * 256 + 1. */
    private static void highestByteOfAReferenceIsFirst() {
        TransportFour x = new TransportFour();
        x.fault(Due.SPOILED, 0, 4, 255);
        x.call(0);
        x.tick(2);
        DUE.is("the caller's reference", x.told(1, 2), 65281);
        DUE.is("highest byte", x.byteOf(1, 2), 255);
        DUE.is("lowest byte", x.byteOf(1, 3), 1);
    }

    /** A run of calls in which the unit with that number of sending is of that kind and so long. */
    private record Run(String kind, int number, int length, Due.Calls calls) {
        /** What can be seen, with a fault, when the unit was sent again at least once if that is due. */
        String seenWith(int faultKind, int place, int mask) {
            TransportFour x = new TransportFour();
            x.fault(faultKind, number, place, mask);
            calls.on(x);
            x.tick(13);
            return Picture.of(x);
        }

        int byteAt(int place) {
            TransportFour x = new TransportFour();
            calls.on(x);
            x.tick(13);
            return x.byteOf(number, place);
        }
    }

    private static TransportFour opened(TransportFour x) {
        x.call(0);
        x.tick(6);
        return x;
    }

    private static int sendThree(TransportFour x) {
        opened(x).type(0x00ff07, 3);
        return x.send(0);
    }

    private static final List<Run> RUNS = List.of(
            new Run("CALL", 0, 11, x -> x.call(0)),
            new Run("ANSWER", 1, 11, x -> x.call(0)),
            new Run("RECEIPT", 2, 9, x -> x.call(0)),
            new Run("DATA", 3, 12, UnitTest::sendThree),
            new Run("RECEIPT of DATA", 4, 9, UnitTest::sendThree),
            new Run("empty DATA", 3, 9, x -> opened(x).send(0)),
            new Run("URGENT", 3, 10, x -> opened(x).urge(0, 7)),
            new Run("URGENT RECEIPT", 4, 9, x -> opened(x).urge(0, 7)),
            new Run("END", 3, 11, x -> opened(x).end(0)),
            new Run("END RECEIPT", 4, 10, x -> opened(x).end(0)));

    /** Only 0 and 255 leave the same modulo 255: any other change of one byte makes a unit that is not good. */
    private static void spoiledUnitCountsAsLost() {
        for (Run run : RUNS) {
            String lost = run.seenWith(Due.LOST, 0, 0);
            DUE.is("byte behind " + run.kind(), run.byteAt(run.length()), Due.BAD);
            for (int place = 0; place < run.length(); place++) {
                int sent = run.byteAt(place);
                DUE.isTrue("byte " + place + " of " + run.kind(), sent >= 0);
                for (int mask = 1; mask <= 255; mask++) {
                    if (mask != 255 || (sent != 0 && sent != 255)) {
                        DUE.same(run.kind() + " at " + place + " xor " + mask,
                                run.seenWith(Due.SPOILED, place, mask), lost);
                    }
                }
            }
        }
    }

    /** "is xor m when it arrives": a byte of DATA from 0 to 255 and back leaves the unit good. */
    private static void dataBytesOf0And255MayBeSwapped() {
        TransportFour x = new TransportFour();
        x.fault(Due.SPOILED, 3, 9, 255);
        x.fault(Due.SPOILED, 4, 10, 255);
        sendThree(x);
        sendAnotherThree(x);
        x.tick(2);
        DUE.is("take", x.take(1), 3);
        DUE.is("0 came as 255", x.read(1, 0), 255);
        DUE.is("255 stays", x.read(1, 1), 255);
        DUE.is("take", x.take(1), 3);
        DUE.is("0 stays", x.read(1, 0), 0);
        DUE.is("255 came as 0", x.read(1, 1), 0);
        DUE.is("7 stays", x.read(1, 2), 7);
    }

    private static void sendAnotherThree(TransportFour x) {
        x.type(0x00ff07, 3);
        x.send(0);
    }
}
