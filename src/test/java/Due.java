import java.util.Arrays;

/** Counts the answers that are not as due, and knows units by the document's own words. */
final class Due {
    static final int BAD = -1;
    static final int NO = -2;
    static final int FULL = -3;

    static final int LOST = 1;
    static final int DOUBLED = 2;
    static final int DELAYED = 3;
    static final int SPOILED = 4;

    private int asked;
    private int wrong;

    void is(String what, long got, long want) {
        asked++;
        if (got != want) {
            wrong++;
            System.out.println(what + " answered " + got + ", due is " + want);
        }
    }

    void isTrue(String what, boolean got) {
        is(what, got ? 1 : 0, 1);
    }

    void same(String what, String got, String want) {
        asked++;
        if (!got.equals(want)) {
            wrong++;
            System.out.println(what + ":\n  is  " + got + "\n  due " + want);
        }
    }

    /** told(end, 0), told(end, 1) and so on. */
    void told(TransportFour x, int end, int... wants) {
        for (int what = 0; what < wants.length; what++) {
            is("told(" + end + ", " + what + ") at " + x.clock(), x.told(end, what), wants[what]);
        }
    }

    void state(TransportFour x, int end, int want) {
        is("state of " + end + " at " + x.clock(), x.told(end, 0), want);
    }

    /** The unit with that number of sending, its length too. */
    void unit(TransportFour x, int number, int[] want) {
        int[] got = new int[want.length];
        for (int i = 0; i < want.length; i++) {
            got[i] = x.byteOf(number, i);
        }
        is("unit " + number + " " + Arrays.toString(got) + " against " + Arrays.toString(want),
                Arrays.equals(got, want) ? 1 : 0, 1);
        is("byte behind unit " + number, x.byteOf(number, want.length), BAD);
    }

    void finish() {
        System.out.println(asked + " answers, " + wrong + " not as due");
        if (wrong != 0) {
            System.exit(1);
        }
    }

    static int[] row(int... bytes) {
        return bytes;
    }

    static int[] make(int code, int to, int[] middle, int... body) {
        int head = 4 + middle.length + 4;
        int[] unit = new int[head + body.length];
        unit[0] = head - 1;
        unit[1] = code;
        unit[2] = to / 256;
        unit[3] = to % 256;
        System.arraycopy(middle, 0, unit, 4, middle.length);
        unit[head - 4] = 195;
        unit[head - 3] = 2;
        System.arraycopy(body, 0, unit, head, body.length);
        long length = unit.length;
        long n = head - 1;
        long c = 0;
        long e = 0;
        for (int i = 1; i <= length; i++) {
            c += unit[i - 1];
            e += (length - i + 1) * unit[i - 1];
        }
        unit[head - 2] = (int) Math.floorMod((length - n) * c - e, 255L);
        unit[head - 1] = (int) Math.floorMod(e - (length - n + 1) * c, 255L);
        return unit;
    }

    static int[] callUnit(int from) {
        return make(224 + 6, 0, row(from / 256, from % 256, 64));
    }

    static int[] answerUnit(int to, int from) {
        return make(208 + 6, to, row(from / 256, from % 256, 64));
    }

    static int[] endUnit(int to, int from, int reason) {
        return make(128, to, row(from / 256, from % 256, reason));
    }

    static int[] endReceiptUnit(int to, int from) {
        return make(192, to, row(from / 256, from % 256));
    }

    static int[] receiptUnit(int to, int number, int credit) {
        return make(96 + credit, to, row(number));
    }

    static int[] dataUnit(int to, int number, boolean last, int... body) {
        return make(240, to, row(last ? number + 128 : number), body);
    }

    static int[] urgentUnit(int to, int number, int b) {
        return make(16, to, row(number), b);
    }

    static int[] urgentReceiptUnit(int to, int number) {
        return make(32, to, row(number));
    }

    /** What an object can be asked to do more than once. */
    interface Calls {
        int on(TransportFour x);
    }

    /** Numbers that no end has. */
    static final int[] NO_ENDS = {Integer.MIN_VALUE, -1, 2, Integer.MAX_VALUE};

    static final int CLOSED = 0;
    static final int CALLING = 1;
    static final int OPEN = 2;
    static final int CLOSING = 3;
    static final int FROZEN = 4;

    /** An object one of whose ends is in that state, and stays there for at least 8 ticks. */
    static TransportFour inState(int end, int state) {
        TransportFour x = state <= CALLING ? new TransportFour() : settled();
        if (state == CALLING) {
            lose(x, 0, 1);
            x.call(end);
        } else if (state == CLOSING) {
            lose(x, x.sent(), 1);
            x.end(end);
        } else if (state == FROZEN) {
            x.end(1 - end);
            x.tick(2);
        }
        return x;
    }

    static void lose(TransportFour x, int first, int many) {
        for (int number = first; number < first + many; number++) {
            x.fault(LOST, number, 0, 0);
        }
    }

    /** The tape gets so many bytes, from first on. */
    static void type(TransportFour x, int first, int many) {
        for (int i = 0; i < many; i++) {
            x.type(first + i, 1);
        }
    }

    /** The tape gets 64 bytes in 8 calls. */
    static void typeWhole(TransportFour x) {
        for (int i = 0; i < 8; i++) {
            x.type(i, 8);
        }
    }

    /** So many times 8 DATA of an end go, come, and are taken; 11 calls each time; the peer allows 6 then. */
    static void passEights(TransportFour x, int end, int times) {
        for (int i = 0; i < times; i++) {
            typeWhole(x);
            x.send(end);
            x.tick(8);
            x.take(1 - end);
            x.tick(2);
        }
    }

    /** End 0 has called: CALL, ANSWER and RECEIPT (0 to 2) were sent, both ends are OPEN, the clock is at 4. */
    static TransportFour opened() {
        TransportFour x = new TransportFour();
        x.call(0);
        x.tick(4);
        return x;
    }

    /** As opened(), at 6: no unit is on the way and none waits. */
    static TransportFour settled() {
        TransportFour x = opened();
        x.tick(2);
        return x;
    }

    static void pass(TransportFour x, int ticks) {
        int left = ticks;
        while (left > 0) {
            int step = Math.min(20, left);
            x.tick(step);
            left -= step;
        }
    }
}
