/** All that can be seen of an object, as a text, so that two objects can be compared. */
final class Picture {
    private static final int UNITS = 4;
    private static final int BYTES = 20;
    private static final int TICKS = 26;

    private Picture() {
    }

    /** As it is now: some 110 calls. */
    static String of(TransportFour x) {
        StringBuilder text = new StringBuilder();
        text.append("clock ").append(x.clock()).append(" sent ").append(x.sent());
        for (int end = 0; end < 2; end++) {
            text.append(" end ").append(end).append(':');
            for (int what = 0; what < 10; what++) {
                text.append(' ').append(x.told(end, what));
            }
            text.append(" read");
            for (int i = 0; i < BYTES && x.read(end, i) >= 0; i++) {
                text.append(' ').append(x.read(end, i));
            }
        }
        int sent = x.sent();
        for (int number = Math.max(0, sent - UNITS); number < sent; number++) {
            text.append(" unit ").append(number).append(':').append(unit(x, number));
        }
        return text.toString();
    }

    static String unit(TransportFour x, int number) {
        StringBuilder text = new StringBuilder();
        int b = x.byteOf(number, 0);
        for (int i = 1; b >= 0; i++) {
            text.append(' ').append(b);
            b = x.byteOf(number, i);
        }
        return text.toString();
    }

    /** As it is now, and what the tape, the queues, the faults and the times that are kept inside lead to. */
    static String withFuture(TransportFour x) {
        StringBuilder text = new StringBuilder(of(x));
        text.append(" then");
        for (int end = 0; end < 2; end++) {
            text.append(' ').append(x.type(0xa5, 1)).append(' ').append(x.send(end)).append(' ').append(x.urge(end, 7));
            text.append(' ').append(x.take(end)).append(' ').append(x.urgent(end));
        }
        for (int i = 0; i < TICKS; i++) {
            text.append(' ').append(x.tick(1)).append(':').append(x.sent());
        }
        text.append(" fault ").append(x.fault(1, x.sent(), 0, 0));
        return text.append(" then ").append(of(x)).toString();
    }
}
