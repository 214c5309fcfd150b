import java.util.List;
import java.util.function.Supplier;

/** Sending again and giving up: the times at which units that wait go once more, and when that ends. */
public final class AgainTest {
    private static final Due DUE = new Due();

    public static void main(String[] args) {
        eachKindIsSentFourTimes();
        endGivesUpEightTicksBehindTheFourth();
        frozenEndIsClosedTwelveTicksLater();
        eightTicksCountFromTheLatestSending();
        anyGoodUnitForTheConnectionEndsTheWaitOfAnswer();
        otherUnitsDoNotEndTheWaitOfAnswer();
        receiptEndsTheWaitOfWhatIsBelowIt();
        receiptInTheLastTickIsInTime();
        whatWaitsNoMoreIsForgotten();
        silenceIsBrokenAt20();
        anySendingBreaksSilence();
        onlyOpenEndsBreakSilence();
        deafEndGivesUpAt50();
        anyGoodUnitForTheConnectionIsHeard();
        otherUnitsAreNotHeard();
        DUE.finish();
    }

    /** An object in which an end has just sent a unit that waits, as that row; nothing arrives any more. */
    private record Waiting(String kind, int end, int stateThen, int reference, int[] row, Supplier<TransportFour> maker) {
        TransportFour after(int ticks) {
            TransportFour x = maker.get();
            Due.pass(x, ticks);
            return x;
        }
    }

    private static TransportFour deaf(TransportFour x) {
        Due.lose(x, x.sent(), 30);
        return x;
    }

    private static TransportFour called() {
        TransportFour x = deaf(new TransportFour());
        x.call(0);
        return x;
    }

    private static TransportFour answered() {
        TransportFour x = new TransportFour();
        Due.lose(x, 1, 30);
        x.call(0);
        x.tick(2);
        return x;
    }

    private static TransportFour sent() {
        TransportFour x = deaf(Due.settled());
        x.type(5, 1);
        x.send(0);
        return x;
    }

    private static TransportFour urged() {
        TransportFour x = deaf(Due.settled());
        x.urge(0, 6);
        return x;
    }

    private static TransportFour ended() {
        TransportFour x = deaf(Due.settled());
        x.end(0);
        return x;
    }

    private static final List<Waiting> ALL = List.of(
            new Waiting("CALL", 0, Due.CALLING, 0, Due.callUnit(1), AgainTest::called),
            new Waiting("ANSWER", 1, Due.OPEN, 1, Due.answerUnit(1, 1), AgainTest::answered),
            new Waiting("DATA", 0, Due.OPEN, 1, Due.dataUnit(1, 0, true, 5), AgainTest::sent),
            new Waiting("URGENT", 0, Due.OPEN, 1, Due.urgentUnit(1, 0, 6), AgainTest::urged),
            new Waiting("END", 0, Due.CLOSING, 1, Due.endUnit(1, 1, 0), AgainTest::ended));

    private static int times(TransportFour x, int[] row) {
        int times = 0;
        for (int number = 0; number < x.sent(); number++) {
            int alike = 0;
            while (alike < row.length && x.byteOf(number, alike) == row[alike]) {
                alike++;
            }
            if (alike == row.length) {
                times++;
            }
        }
        return times;
    }

    /** "is sent again when 8 ticks have gone since it was sent latest, at most 4 times in all". */
    private static void eachKindIsSentFourTimes() {
        for (Waiting one : ALL) {
            for (int i = 1; i <= 4; i++) {
                DUE.is(one.kind() + " before " + 8 * i, times(one.after(8 * i - 1), one.row()), i);
                DUE.is(one.kind() + " at " + 8 * i, times(one.after(8 * i), one.row()), Math.min(4, i + 1));
            }
            DUE.is(one.kind() + " at 90", times(one.after(90), one.row()), 4);
        }
    }

    /** "8 ticks behind the fourth the end GIVES UP: it sends END with reason 1 once, and is FROZEN." */
    private static void endGivesUpEightTicksBehindTheFourth() {
        for (Waiting one : ALL) {
            int[] forced = Due.endUnit(one.reference(), 1, 1);
            TransportFour before = one.after(31);
            DUE.state(before, one.end(), one.stateThen());
            DUE.is(one.kind() + ": END of reason 1 at 31", times(before, forced), 0);
            DUE.is(one.kind() + ": reason at 31", before.told(one.end(), 9), one.kind().equals("END") ? 0 : -1);
            TransportFour then = one.after(32);
            DUE.state(then, one.end(), Due.FROZEN);
            DUE.is(one.kind() + ": END of reason 1 at 32", times(then, forced), 1);
            DUE.is(one.kind() + ": reason at 32", then.told(one.end(), 9), one.kind().equals("END") ? 0 : 1);
        }
    }

    /** "FROZEN ends are CLOSED 12 ticks later." */
    private static void frozenEndIsClosedTwelveTicksLater() {
        for (Waiting one : ALL) {
            int[] forced = Due.endUnit(one.reference(), 1, 1);
            DUE.state(one.after(43), one.end(), Due.FROZEN);
            TransportFour then = one.after(44);
            DUE.state(then, one.end(), Due.CLOSED);
            DUE.is(one.kind() + ": END is sent once", times(then, forced), 1);
        }
    }

    /** Each of two DATA has times of its own. */
    private static void eightTicksCountFromTheLatestSending() {
        TransportFour x = deaf(Due.settled());
        x.send(0);
        x.tick(3);
        x.send(0);
        x.tick(4);
        int[] first = Due.dataUnit(1, 0, true);
        int[] second = Due.dataUnit(1, 1, true);
        DUE.is("first at 13", times(x, first), 1);
        x.tick(1);
        DUE.is("first at 14", times(x, first), 2);
        x.tick(2);
        DUE.is("second at 16", times(x, second), 1);
        x.tick(1);
        DUE.is("second at 17", times(x, second), 2);
        x.tick(4);
        DUE.is("first at 21", times(x, first), 2);
        x.tick(1);
        DUE.is("first at 22", times(x, first), 3);
        DUE.is("second at 22", times(x, second), 2);
    }

    /** The ANSWER is unit 1 and is due again at 10; the RECEIPT behind it, unit 2, has that fault. */
    private static TransportFour answeredWithFault(int kind, int place, int mask) {
        TransportFour x = new TransportFour();
        x.fault(kind, 2, place, mask);
        x.call(0);
        x.tick(4);
        return x;
    }

    private static void goesToTenWith(String what, TransportFour x, int times) {
        Due.pass(x, 10 - x.clock());
        DUE.is("ANSWERs " + what, times(x, Due.answerUnit(1, 1)), times);
    }

    /** "An ANSWER waits for any good unit for its connection." */
    private static void anyGoodUnitForTheConnectionEndsTheWaitOfAnswer() {
        TransportFour x = answeredWithFault(Due.DELAYED, 0, 0);
        goesToTenWith("with a RECEIPT at 11", x, 2);
        x = Due.opened();
        goesToTenWith("with a RECEIPT at 6", x, 1);
        x = answeredWithFault(Due.LOST, 0, 0);
        x.send(0);
        goesToTenWith("with DATA at 6", x, 1);
        x = answeredWithFault(Due.LOST, 0, 0);
        x.urge(0, 1);
        goesToTenWith("with URGENT at 6", x, 1);
        x = answeredWithFault(Due.LOST, 0, 0);
        x.end(0);
        goesToTenWith("with END at 6", x, 1);
        x = answeredWithFault(Due.LOST, 0, 0);
        x.tick(4);
        x.urge(0, 1);
        goesToTenWith("with URGENT at 10, before what is due", x, 1);
    }

    private static void otherUnitsDoNotEndTheWaitOfAnswer() {
        goesToTenWith("with a lost RECEIPT", answeredWithFault(Due.LOST, 0, 0), 2);
        goesToTenWith("with a spoiled RECEIPT", answeredWithFault(Due.SPOILED, 1, 1), 2);
        goesToTenWith("with a RECEIPT for another reference", answeredWithFault(Due.SPOILED, 2, 255), 2);
        TransportFour x = new TransportFour();
        Due.lose(x, 1, 1);
        x.call(0);
        goesToTenWith("with the CALL once more", x, 2);
    }

    /** "DATA below it waits no more": 0 has its receipt, 1 is lost, 2 is kept but above the RECEIPT. */
    private static void receiptEndsTheWaitOfWhatIsBelowIt() {
        TransportFour x = Due.settled();
        x.fault(Due.LOST, 4, 0, 0);
        x.send(0);
        x.send(0);
        x.send(0);
        x.tick(4);
        DUE.is("sent", x.sent(), 8);
        DUE.unit(x, 6, Due.receiptUnit(1, 1, 5));
        DUE.unit(x, 7, Due.receiptUnit(1, 1, 5));
        x.tick(4);
        DUE.is("sent again", x.sent(), 10);
        DUE.unit(x, 8, Due.dataUnit(1, 1, true));
        DUE.unit(x, 9, Due.dataUnit(1, 2, true));
    }

    /** DATA 0, sent for the fourth time at 30, has lost its RECEIPT (8); one for DATA 1 comes at clock + 4. */
    private static TransportFour lateReceipt(int clock) {
        TransportFour x = Due.settled();
        Due.lose(x, 3, 3);
        Due.lose(x, 8, 1);
        x.send(0);
        Due.pass(x, clock - 6);
        DUE.is("sent at " + clock, x.sent(), 9);
        x.send(0);
        Due.pass(x, 37 - clock);
        DUE.state(x, 0, Due.OPEN);
        x.tick(1);
        return x;
    }

    /** What arrives does so before giving up: a RECEIPT at 38 is in time, one at 39 is not. */
    private static void receiptInTheLastTickIsInTime() {
        DUE.state(lateReceipt(34), 0, Due.OPEN);
        DUE.state(lateReceipt(35), 0, Due.FROZEN);
    }

    /** DATA 0 is sent four times and has its RECEIPT; behind it come as many units as any store of 40 has. */
    private static void whatWaitsNoMoreIsForgotten() {
        TransportFour x = Due.settled();
        Due.lose(x, 3, 3);
        x.send(0);
        Due.pass(x, 30);
        DUE.is("DATA 0", times(x, Due.dataUnit(1, 0, true)), 4);
        x.take(1);
        for (int i = 1; i <= 42; i++) {
            DUE.is("send", x.send(0), 1);
            x.tick(4);
            DUE.is("take", x.take(1), 0);
        }
        x.tick(9);
        DUE.state(x, 0, Due.OPEN);
        DUE.is("next number", x.told(0, 3), 43);
    }

    /** "When OPEN and 20 ticks have gone since it sent anything, it sends a RECEIPT". */
    private static void silenceIsBrokenAt20() {
        TransportFour x = Due.opened();
        Due.pass(x, 17);
        DUE.is("end 1 is silent for 19 ticks", x.sent(), 3);
        x.tick(1);
        DUE.is("end 1 is silent for 20", x.sent(), 4);
        DUE.unit(x, 3, Due.receiptUnit(1, 0, 6));
        x.tick(1);
        DUE.is("end 0 is silent for 19 ticks", x.sent(), 4);
        x.tick(1);
        DUE.is("end 0 is silent for 20", x.sent(), 5);
        DUE.unit(x, 4, Due.receiptUnit(1, 0, 6));
        Due.pass(x, 17);
        DUE.is("end 1 again for 19", x.sent(), 5);
        x.tick(1);
        DUE.is("end 1 again for 20", x.sent(), 6);
    }

    /** The clock comes to be that; so many units were sent one tick before, and so many then. */
    private static void sentAt(TransportFour x, int clock, int before, int then) {
        Due.pass(x, clock - 1 - x.clock());
        DUE.is("sent at " + (clock - 1), x.sent(), before);
        x.tick(1);
        DUE.is("sent at " + clock, x.sent(), then);
    }

    /** "since it sent anything": end 1 sends at 2 and again at 12, so that it is silent till 32, not 22. */
    private static void anySendingBreaksSilence() {
        TransportFour x = Due.opened();
        x.tick(8);
        x.send(1);
        sentAt(x, 32, 5, 6);
        DUE.unit(x, 5, Due.receiptUnit(1, 0, 6));
        x = Due.opened();
        x.tick(8);
        x.urge(1, 1);
        sentAt(x, 32, 5, 6);
        x = Due.opened();
        x.tick(6);
        x.send(0);
        sentAt(x, 30, 5, 6);
        sentAt(x, 32, 6, 7);
        x = Due.opened();
        x.tick(6);
        x.urge(0, 1);
        sentAt(x, 30, 5, 6);
        sentAt(x, 32, 6, 7);
        x = Due.opened();
        Due.lose(x, 3, 1);
        x.tick(8);
        x.send(1);
        DUE.is("sent at 12", x.sent(), 4);
        sentAt(x, 20, 4, 5);
        sentAt(x, 40, 6, 7);
    }

    private static void onlyOpenEndsBreakSilence() {
        TransportFour x = new TransportFour();
        Due.pass(x, 100);
        DUE.is("sent by CLOSED ends", x.sent(), 0);
        TransportFour y = Due.settled();
        y.end(0);
        Due.pass(y, 100);
        DUE.is("sent by FROZEN and CLOSED ends", y.sent(), 5);
    }

    /** "When OPEN and 50 ticks have gone since a good unit for the connection came, it gives up." */
    private static void deafEndGivesUpAt50() {
        TransportFour x = Due.settled();
        Due.lose(x, 3, 30);
        Due.pass(x, 47);
        DUE.state(x, 0, Due.OPEN);
        x.tick(1);
        DUE.state(x, 0, Due.FROZEN);
        DUE.is("reason of end 0 at 54", x.told(0, 9), 1);
        x.tick(1);
        DUE.state(x, 1, Due.OPEN);
        x.tick(1);
        DUE.state(x, 1, Due.FROZEN);
        DUE.is("reason of end 1 at 56", x.told(1, 9), 1);
    }

    /** All is lost from 6 on but unit 5, which end 0 sends at 38. */
    private static TransportFour heardAt40(Due.Calls calls) {
        TransportFour x = Due.settled();
        Due.lose(x, 3, 2);
        Due.pass(x, 32);
        DUE.is("sent at 38", x.sent(), 5);
        Due.lose(x, 6, 20);
        calls.on(x);
        DUE.is("sent then", x.sent(), 6);
        Due.pass(x, 17);
        DUE.state(x, 1, Due.OPEN);
        x.tick(1);
        return x;
    }

    private static void isOpenTill90(String what, TransportFour x) {
        DUE.is("state of end 1 at 56 with " + what, x.told(1, 0), Due.OPEN);
        Due.pass(x, 33);
        DUE.is("state of end 1 at 89 with " + what, x.told(1, 0), Due.OPEN);
        x.tick(1);
        DUE.is("state of end 1 at 90 with " + what, x.told(1, 0), Due.FROZEN);
    }

    private static void anyGoodUnitForTheConnectionIsHeard() {
        isOpenTill90("DATA", heardAt40(x -> x.send(0)));
        isOpenTill90("URGENT", heardAt40(x -> x.urge(0, 1)));
        TransportFour x = Due.settled();
        Due.lose(x, 3, 1);
        Due.lose(x, 5, 20);
        Due.pass(x, 69);
        DUE.is("state of end 1 at 75 with a RECEIPT at 26", x.told(1, 0), Due.OPEN);
        x.tick(1);
        DUE.is("state of end 1 at 76", x.told(1, 0), Due.FROZEN);
    }

    private static void otherUnitsAreNotHeard() {
        DUE.state(heardAt40(x -> {
            x.fault(Due.SPOILED, 5, 1, 1);
            return x.send(0);
        }), 1, Due.FROZEN);
        DUE.state(heardAt40(x -> {
            x.fault(Due.SPOILED, 5, 2, 255);
            return x.send(0);
        }), 1, Due.FROZEN);
    }
}
