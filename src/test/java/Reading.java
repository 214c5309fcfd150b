import java.util.ArrayList;
import java.util.HashMap;
import java.util.List;
import java.util.Map;
import java.util.TreeMap;

/**
 * The document read a second time, in the plainest form: everything sent and everything that came is kept in lists,
 * and counted on from 0; a number modulo 128 is made only when a unit is written or read.
 */
final class Reading {
    private static final int BAD = -1;
    private static final int NO = -2;
    private static final int FULL = -3;

    private enum State { CLOSED, CALLING, OPEN, CLOSING, FROZEN }

    private record Fault(int kind, int number, int place, int mask) { }

    private record Arrival(int end, int[] unit) { }

    /** A unit that waits for an answer. */
    private static final class Waiting {
        final int code;
        final int number;
        final int[] body;
        final boolean last;
        int times;
        int latest;

        Waiting(int code, int number, int[] body, boolean last) {
            this.code = code;
            this.number = number;
            this.body = body;
            this.last = last;
        }

        boolean isOver(int clock) {
            return times > 0 && clock == latest + 8;
        }
    }

    private static final class Message {
        final List<Integer> bytes = new ArrayList<>();
        int units;
    }

    /** What a connection has, all of it gone when the next one begins. */
    private static final class Connection {
        final List<Waiting> data = new ArrayList<>();
        final List<Waiting> urgent = new ArrayList<>();
        Waiting control;
        int next;
        int peerExpects;
        int peerCredit;
        int urgentDone;
        int expected;
        int urgentExpected;
        final Map<Integer, int[]> kept = new HashMap<>();
        final List<Message> there = new ArrayList<>();
        final List<Integer> urgentThere = new ArrayList<>();
        Message unfinished = new Message();
        int reason = -1;
        int heard;

        Connection(int clock) {
            heard = clock;
        }
    }

    private static final class Side {
        final int index;
        State state = State.CLOSED;
        int reference;
        int peer;
        int callerAnswered = -1;
        Connection line = new Connection(0);
        List<Integer> taken = new ArrayList<>();
        int sentLatest;
        int frozen;

        Side(int index) {
            this.index = index;
        }
    }

    private final Side[] sides = {new Side(0), new Side(1)};
    private final List<Integer> tape = new ArrayList<>();
    private final List<int[]> record = new ArrayList<>();
    private final List<Fault> faults = new ArrayList<>();
    private final Map<Integer, TreeMap<Integer, Arrival>> firsts = new HashMap<>();
    private final Map<Integer, TreeMap<Integer, Arrival>> seconds = new HashMap<>();
    private int clock;

    int call(int end) {
        if (!isEnd(end)) {
            return BAD;
        }
        Side s = sides[end];
        if (s.state != State.CLOSED) {
            return NO;
        }
        begin(s, 0);
        s.state = State.CALLING;
        s.callerAnswered = -1;
        s.line.control = new Waiting(224, 0, new int[0], false);
        sendWaiting(s, s.line.control);
        return s.reference;
    }

    int type(long bytes, int n) {
        if (n < 1 || n > 8) {
            return BAD;
        }
        if (tape.size() + n > 64) {
            return FULL;
        }
        for (int i = n - 1; i >= 0; i--) {
            tape.add((int) (bytes >>> 8 * i & 255));
        }
        return tape.size();
    }

    int send(int end) {
        if (!isEnd(end)) {
            return BAD;
        }
        Side s = sides[end];
        if (s.state != State.OPEN) {
            return NO;
        }
        int pieces = Math.max(1, (tape.size() + 7) / 8);
        if (s.line.data.size() - s.line.peerExpects + pieces > 40) {
            return FULL;
        }
        for (int i = 0; i < pieces; i++) {
            List<Integer> piece = tape.subList(8 * i, Math.min(8 * i + 8, tape.size()));
            int[] body = piece.stream().mapToInt(Integer::intValue).toArray();
            s.line.data.add(new Waiting(240, s.line.data.size(), body, i == pieces - 1));
        }
        tape.clear();
        sendWhatMayBe(s);
        return s.line.data.size() - s.line.peerExpects;
    }

    int urge(int end, int b) {
        if (!isEnd(end) || b < 0 || b > 255) {
            return BAD;
        }
        Side s = sides[end];
        if (s.state != State.OPEN) {
            return NO;
        }
        int waits = s.line.urgent.size() - s.line.urgentDone;
        if (waits == 8) {
            return FULL;
        }
        s.line.urgent.add(new Waiting(16, s.line.urgent.size(), new int[] {b}, false));
        sendWhatMayBe(s);
        return waits + 1;
    }

    int end(int end) {
        if (!isEnd(end)) {
            return BAD;
        }
        Side s = sides[end];
        if (s.state != State.OPEN && s.state != State.CALLING) {
            return NO;
        }
        s.line.data.removeIf(u -> u.times == 0);
        s.line.urgent.removeIf(u -> u.times == 0);
        s.state = State.CLOSING;
        s.line.control = new Waiting(128, 0, new int[0], false);
        sendWaiting(s, s.line.control);
        return 1;
    }

    int take(int end) {
        if (!isEnd(end)) {
            return BAD;
        }
        Side s = sides[end];
        if (s.line.there.isEmpty()) {
            return NO;
        }
        boolean none = credit(s) == 0;
        s.taken = s.line.there.remove(0).bytes;
        if (none && s.state == State.OPEN) {
            sendReceipt(s);
        }
        return s.taken.size();
    }

    int read(int end, int i) {
        if (!isEnd(end) || i < 0 || i >= sides[end].taken.size()) {
            return BAD;
        }
        return sides[end].taken.get(i);
    }

    int urgent(int end) {
        if (!isEnd(end)) {
            return BAD;
        }
        List<Integer> there = sides[end].line.urgentThere;
        return there.isEmpty() ? NO : there.remove(0);
    }

    int fault(int kind, int number, int place, int mask) {
        if (kind < 1 || kind > 4 || number < record.size()) {
            return BAD;
        }
        if (kind == 4 && (place < 0 || mask < 1 || mask > 255)) {
            return BAD;
        }
        if (faults.size() == 60) {
            return FULL;
        }
        faults.add(new Fault(kind, number, place, mask));
        return faults.size();
    }

    int tick(int many) {
        if (many < 1 || many > 20) {
            return BAD;
        }
        if (clock + many > 3000) {
            return FULL;
        }
        for (int i = 0; i < many; i++) {
            clock++;
            arriveAll(firsts);
            arriveAll(seconds);
            pass(sides[0]);
            pass(sides[1]);
        }
        return clock;
    }

    int told(int end, int what) {
        if (!isEnd(end)) {
            return BAD;
        }
        Side s = sides[end];
        Connection line = s.line;
        int[] all = {s.state.ordinal(), s.reference, s.peer, line.next % 128, line.expected % 128, credit(s),
            (line.peerExpects + line.peerCredit) % 128, line.there.size(), line.urgentThere.size(), line.reason};
        return what < 0 || what > 9 ? BAD : all[what];
    }

    int sent() {
        return record.size();
    }

    int byteOf(int number, int i) {
        if (number < 0 || number >= record.size() || record.size() - number > 64) {
            return BAD;
        }
        int[] unit = record.get(number);
        return i < 0 || i >= unit.length ? BAD : unit[i];
    }

    int clock() {
        return clock;
    }

    private static boolean isEnd(int end) {
        return end == 0 || end == 1;
    }

    private void begin(Side s, int peer) {
        s.reference = s.reference % 65535 + 1;
        s.peer = peer;
        s.line = new Connection(clock);
    }

    private static int credit(Side s) {
        int units = s.line.there.stream().mapToInt(m -> m.units).sum();
        return Math.max(0, 6 - units);
    }

    // Sending.

    private void sendWaiting(Side s, Waiting u) {
        u.times++;
        u.latest = clock;
        switch (u.code) {
            case 224 -> transmit(s, 230, 0, new int[] {s.reference / 256, s.reference % 256, 64});
            case 208 -> transmit(s, 214, s.peer, new int[] {s.reference / 256, s.reference % 256, 64});
            case 128 -> sendEnd(s, s.peer, s.reference, 0);
            default -> transmit(s, u.code, s.peer, new int[] {u.number % 128 + (u.last ? 128 : 0)}, u.body);
        }
        if (u.code == 128 && s.line.reason == -1) {
            s.line.reason = 0;
        }
    }

    private void sendEnd(Side s, int to, int from, int reason) {
        transmit(s, 128, to, new int[] {from / 256, from % 256, reason});
    }

    private void sendEndReceipt(Side s, int to, int from) {
        transmit(s, 192, to, new int[] {from / 256, from % 256});
    }

    private void sendReceipt(Side s) {
        transmit(s, 96 + credit(s), s.peer, new int[] {s.line.expected % 128});
    }

    private void sendWhatMayBe(Side s) {
        Connection line = s.line;
        while (line.next < line.data.size() && line.next - line.peerExpects < line.peerCredit) {
            sendWaiting(s, line.data.get(line.next));
            line.next++;
        }
        if (line.urgentDone < line.urgent.size() && line.urgent.get(line.urgentDone).times == 0) {
            sendWaiting(s, line.urgent.get(line.urgentDone));
        }
    }

    private void transmit(Side s, int code, int to, int[] middle, int... body) {
        int[] unit = Due.make(code, to, middle, body);
        int number = record.size();
        record.add(unit);
        s.sentLatest = clock;
        int[] arrives = unit.clone();
        int delay = 2;
        boolean lost = false;
        boolean twice = false;
        for (Fault f : faults) {
            if (f.number() == number) {
                lost |= f.kind() == 1;
                twice |= f.kind() == 2;
                delay = f.kind() == 3 ? 7 : delay;
                if (f.kind() == 4) {
                    arrives = unit.clone();
                    arrives[f.place() % unit.length] ^= f.mask();
                }
            }
        }
        if (!lost) {
            Arrival arrival = new Arrival(1 - s.index, arrives);
            firsts.computeIfAbsent(clock + delay, t -> new TreeMap<>()).put(number, arrival);
            if (twice) {
                seconds.computeIfAbsent(clock + delay + 1, t -> new TreeMap<>()).put(number, arrival);
            }
        }
    }

    // Arrivals.

    private void arriveAll(Map<Integer, TreeMap<Integer, Arrival>> when) {
        TreeMap<Integer, Arrival> now = when.remove(clock);
        if (now != null) {
            for (Arrival a : now.values()) {
                if (isGood(a.unit())) {
                    arrive(sides[a.end()], a.unit());
                }
            }
        }
    }

    private static int plainCode(int code) {
        int high = code / 16 * 16;
        return high == 224 || high == 208 || high == 96 ? high : code;
    }

    private static boolean isGood(int[] unit) {
        int c = 0;
        int e = 0;
        for (int i = 0; i < unit.length; i++) {
            c += unit[i];
            e += (unit.length - i) * unit[i];
        }
        int head = switch (plainCode(unit[1])) {
            case 224, 208, 128 -> 11;
            case 192 -> 10;
            case 240, 96, 16, 32 -> 9;
            default -> 0;
        };
        if (c % 255 != 0 || e % 255 != 0 || head == 0 || unit[0] != head - 1 || unit.length < head) {
            return false;
        }
        int behind = unit.length - head;
        boolean fits = switch (unit[1]) {
            case 240 -> behind <= 8;
            case 16 -> behind == 1;
            default -> behind == 0;
        };
        return fits && unit[head - 4] == 195 && unit[head - 3] == 2;
    }

    private void arrive(Side s, int[] unit) {
        int code = plainCode(unit[1]);
        int to = unit[2] * 256 + unit[3];
        int from = unit[4] * 256 + unit[5];
        if (code == 224) {
            arriveCall(s, from, unit[1] % 16);
            return;
        }
        boolean isConnected = s.state != State.CLOSED && s.state != State.FROZEN;
        if (to != s.reference || !isConnected) {
            if (code == 128) {
                sendEndReceipt(s, from, to);
            }
            return;
        }
        s.line.heard = clock;
        if (s.line.control != null && s.line.control.code == 208) {
            s.line.control = null;
        }
        switch (code) {
            case 208 -> arriveAnswer(s, from, unit[1] % 16);
            case 240 -> arriveData(s, unit);
            case 16 -> arriveUrgent(s, unit[4] % 128, unit[9]);
            case 96 -> arriveReceipt(s, unit[4] % 128, unit[1] % 16);
            case 32 -> arriveUrgentReceipt(s, unit[4] % 128);
            case 128 -> arriveEnd(s, from, unit[6]);
            default -> {
                if (s.state == State.CLOSING) {
                    freeze(s);
                }
            }
        }
    }

    private void arriveCall(Side s, int from, int credit) {
        if (s.state == State.CLOSED) {
            begin(s, from);
            s.state = State.OPEN;
            s.callerAnswered = from;
            s.line.peerCredit = credit;
            s.line.control = new Waiting(208, 0, new int[0], false);
            sendWaiting(s, s.line.control);
        } else if (s.state != State.OPEN || s.callerAnswered != from) {
            sendEnd(s, from, 0, 2);
        }
    }

    private void arriveAnswer(Side s, int from, int credit) {
        if (s.state == State.CALLING) {
            s.state = State.OPEN;
            s.peer = from;
            s.line.control = null;
            s.line.peerCredit = credit;
            sendReceipt(s);
        } else if (s.state == State.OPEN && s.peer == from) {
            sendReceipt(s);
        }
    }

    private void arriveData(Side s, int[] unit) {
        Connection line = s.line;
        int credit = credit(s);
        for (int n = line.expected; n < line.expected + credit; n++) {
            if (n % 128 == unit[4] % 128) {
                line.kept.putIfAbsent(n, unit);
            }
        }
        while (line.kept.containsKey(line.expected)) {
            int[] next = line.kept.remove(line.expected);
            line.expected++;
            line.unfinished.units++;
            for (int i = 9; i < next.length; i++) {
                line.unfinished.bytes.add(next[i]);
            }
            if (next[4] >= 128) {
                line.there.add(line.unfinished);
                line.unfinished = new Message();
            }
        }
        sendReceipt(s);
    }

    private void arriveUrgent(Side s, int number, int b) {
        if (number == s.line.urgentExpected % 128) {
            s.line.urgentThere.add(b);
            s.line.urgentExpected++;
        }
        transmit(s, 32, s.peer, new int[] {s.line.urgentExpected % 128});
    }

    private void arriveReceipt(Side s, int number, int credit) {
        if (s.state != State.OPEN) {
            return;
        }
        for (int n = s.line.peerExpects; n <= s.line.next; n++) {
            if (n % 128 == number) {
                s.line.peerExpects = n;
                s.line.peerCredit = credit;
                sendWhatMayBe(s);
                return;
            }
        }
    }

    private void arriveUrgentReceipt(Side s, int number) {
        Connection line = s.line;
        boolean waits = line.urgentDone < line.urgent.size();
        if (s.state == State.OPEN && waits && number == (line.urgentDone + 1) % 128) {
            line.urgentDone++;
            sendWhatMayBe(s);
        }
    }

    private void arriveEnd(Side s, int from, int reason) {
        if (s.line.reason == -1) {
            s.line.reason = reason;
        }
        sendEndReceipt(s, from, s.reference);
        if (s.state == State.CALLING) {
            s.state = State.CLOSED;
        } else {
            freeze(s);
        }
    }

    private void freeze(Side s) {
        s.state = State.FROZEN;
        s.frozen = clock;
    }

    // The tick.

    private static List<Waiting> waitingInOrder(Side s) {
        List<Waiting> all = new ArrayList<>();
        Connection line = s.line;
        if (line.control != null) {
            all.add(line.control);
        }
        all.addAll(line.data.subList(line.peerExpects, line.next));
        if (line.urgentDone < line.urgent.size()) {
            all.add(line.urgent.get(line.urgentDone));
        }
        return all;
    }

    private void pass(Side s) {
        if (s.state != State.CLOSED && s.state != State.FROZEN) {
            boolean givesUp = s.state == State.OPEN && clock - s.line.heard >= 50;
            for (Waiting u : waitingInOrder(s)) {
                givesUp |= u.isOver(clock) && u.times == 4;
                if (u.isOver(clock) && u.times < 4) {
                    sendWaiting(s, u);
                }
            }
            if (givesUp) {
                s.line.reason = s.line.reason == -1 ? 1 : s.line.reason;
                sendEnd(s, s.peer, s.reference, 1);
                freeze(s);
            } else if (s.state == State.OPEN && clock - s.sentLatest >= 20) {
                sendReceipt(s);
            }
        }
        if (s.state == State.FROZEN && clock - s.frozen == 12) {
            s.state = State.CLOSED;
        }
    }
}
