/** Two ends of a transport connection over a net that loses, doubles, delays and spoils units. */
public final class TransportFour {
    public static final int BAD = -1;
    public static final int NO = -2;
    public static final int FULL = -3;

    private static final int CLOSED = 0;
    private static final int CALLING = 1;
    private static final int OPEN = 2;
    private static final int CLOSING = 3;
    private static final int FROZEN = 4;

    private static final int NOTHING = 0;
    private static final int URGENT = 16;
    private static final int URGENT_RECEIPT = 32;
    private static final int RECEIPT = 96;
    private static final int END = 128;
    private static final int END_RECEIPT = 192;
    private static final int ANSWER = 208;
    private static final int CALL = 224;
    private static final int DATA = 240;

    private static final int LINK_MARK = 64;
    private static final int CHECK_MARK = 195;
    private static final int CHECK_SIZE = 2;
    private static final int CHECK_MODULUS = 255;
    private static final int LAST_FLAG = 128;
    private static final int NUMBER_MASK = 127;

    private static final int REASON_NONE = -1;
    private static final int REASON_ORDERLY = 0;
    private static final int REASON_GIVEN_UP = 1;
    private static final int REASON_REFUSED = 2;

    private static final int LOST = 1;
    private static final int DOUBLED = 2;
    private static final int DELAYED = 3;
    private static final int SPOILED = 4;

    private static final int DELAY = 2;
    private static final int LONG_DELAY = 5;
    private static final int AGAIN_TICKS = 8;
    private static final int MOST_TIMES = 4;
    private static final int QUIET_TICKS = 20;
    private static final int DEAF_TICKS = 50;
    private static final int FROZEN_TICKS = 12;
    private static final int MOST_TICKS = 20;
    private static final int LAST_TICK = 3000;
    private static final int NEVER = -1;

    private static final int PIECE = 8;
    private static final int FULL_CREDIT = 6;
    private static final int TAPE_ROOM = 64;
    private static final int OUT_ROOM = 40;
    private static final int URGENT_OUT_ROOM = 8;
    // An object is used for 512 calls, and each urgent byte takes one of them.
    private static final int URGENT_IN_ROOM = 512;
    // Credit lets 5 units be there while 9 (8, and one by a spoiled number) are unfinished and 5 are kept.
    private static final int IN_UNITS = 32;
    // The kept numbers lie within the credit, so that eight rows tell them apart.
    private static final int KEPT_ROOM = 8;
    private static final int UNIT_ROOM = 17;
    private static final int RECORD = 64;
    // A unit is on the way for 8 ticks at most; windows, receipts and faults keep fewer than this in so many.
    private static final int NET_ROOM = 256;
    private static final int FAULT_ROOM = 60;
    private static final int LAST_REFERENCE = 65535;

    private final Net net;
    private final End[] ends;
    private final int[] tape;
    private int tapeLength;

    public TransportFour() {
        net = new Net();
        ends = new End[] {new End(0, net), new End(1, net)};
        tape = new int[TAPE_ROOM];
    }

    public int call(int end) {
        if (isNoEnd(end)) {
            return BAD;
        }
        return ends[end].callPeer();
    }

    public int type(long bytes, int n) {
        if (n < 1 || n > PIECE) {
            return BAD;
        }
        if (tapeLength + n > TAPE_ROOM) {
            return FULL;
        }
        for (int i = n - 1; i >= 0; i--) {
            tape[tapeLength] = (int) (bytes >> (8 * i)) & 255;
            tapeLength++;
        }
        return tapeLength;
    }

    public int send(int end) {
        if (isNoEnd(end)) {
            return BAD;
        }
        int answer = ends[end].sendMessage(tape, tapeLength);
        if (answer >= 0) {
            tapeLength = 0;
        }
        return answer;
    }

    public int urge(int end, int b) {
        if (isNoEnd(end) || b < 0 || b > 255) {
            return BAD;
        }
        return ends[end].sendUrgentByte(b);
    }

    public int end(int end) {
        if (isNoEnd(end)) {
            return BAD;
        }
        return ends[end].endConnection();
    }

    public int take(int end) {
        if (isNoEnd(end)) {
            return BAD;
        }
        return ends[end].takeMessage();
    }

    public int read(int end, int i) {
        if (isNoEnd(end)) {
            return BAD;
        }
        return ends[end].inbox.takenByte(i);
    }

    public int urgent(int end) {
        if (isNoEnd(end)) {
            return BAD;
        }
        return ends[end].urgentIn.takeByte();
    }

    public int fault(int kind, int number, int place, int mask) {
        if (kind < LOST || kind > SPOILED || number < net.count) {
            return BAD;
        }
        if (kind == SPOILED && (place < 0 || mask < 1 || mask > 255)) {
            return BAD;
        }
        return net.addFault(kind, number, place, mask);
    }

    public int tick(int many) {
        if (many < 1 || many > MOST_TICKS) {
            return BAD;
        }
        if (net.now + many > LAST_TICK) {
            return FULL;
        }
        for (int i = 0; i < many; i++) {
            net.now++;
            deliver(false);
            deliver(true);
            net.forgetArrived();
            ends[0].passTick();
            ends[1].passTick();
        }
        return net.now;
    }

    public int told(int end, int what) {
        if (isNoEnd(end)) {
            return BAD;
        }
        return ends[end].tell(what);
    }

    public int sent() {
        return net.count;
    }

    public int byteOf(int number, int i) {
        return net.recordedByte(number, i);
    }

    public int clock() {
        return net.now;
    }

    private static boolean isNoEnd(int end) {
        return end != 0 && end != 1;
    }

    private void deliver(boolean second) {
        int count = net.count;
        for (int number = net.oldest; number < count; number++) {
            if (net.arrivesNow(number, second)) {
                Unit unit = net.unitAsItArrives(number);
                if (unit.isGood()) {
                    ends[1 - unit.sender].hear(unit);
                }
            }
        }
    }

    /** A row of bytes, and what the net does with it. */
    private static final class Unit {
        final int[] bytes = new int[UNIT_ROOM];
        int length;
        int sender;
        int arrival;
        int secondArrival;
        int spoiledPlace;
        int spoilingMask;

        void writeLink(int code, int to, int from, int tail) {
            bytes[4] = from >> 8;
            bytes[5] = from & 255;
            if (code == END_RECEIPT) {
                writeHead(code, to, 6);
            } else {
                bytes[6] = tail;
                writeHead(code, to, 7);
            }
        }

        void writeNumbered(int code, int to, int number) {
            bytes[4] = number;
            writeHead(code, to, 5);
        }

        void writeHead(int code, int to, int marks) {
            bytes[0] = marks + 3;
            bytes[1] = code;
            bytes[2] = to >> 8;
            bytes[3] = to & 255;
            bytes[marks] = CHECK_MARK;
            bytes[marks + 1] = CHECK_SIZE;
            bytes[marks + 2] = 0;
            bytes[marks + 3] = 0;
            length = marks + 4;
        }

        void add(int b) {
            if (length < UNIT_ROOM) {
                bytes[length] = b;
                length++;
            }
        }

        int plainSum() {
            int sum = 0;
            for (int i = 0; i < length; i++) {
                sum += bytes[i];
            }
            return sum;
        }

        int weightedSum() {
            int sum = 0;
            for (int i = 0; i < length; i++) {
                sum += (length - i) * bytes[i];
            }
            return sum;
        }

        void fillChecks(int c, int e) {
            // Byte 0 counts the head behind itself, so it is also the first check's place from 1.
            int place = bytes[0];
            int behind = length - place;
            int x = (behind * c - e) % CHECK_MODULUS;
            int y = (e - (behind + 1) * c) % CHECK_MODULUS;
            if (place >= 1 && place < length) {
                bytes[place - 1] = x < 0 ? x + CHECK_MODULUS : x;
                bytes[place] = y < 0 ? y + CHECK_MODULUS : y;
            }
        }

        int kind() {
            int high = bytes[1] & 240;
            boolean bearsCredit = high == CALL || high == ANSWER || high == RECEIPT;
            return bearsCredit ? high : bytes[1];
        }

        int headLengthOfKind() {
            switch (kind()) {
                case CALL:
                case ANSWER:
                case END:
                    return 11;
                case END_RECEIPT:
                    return 10;
                case DATA:
                case RECEIPT:
                case URGENT:
                case URGENT_RECEIPT:
                    return 9;
                default:
                    return NOTHING;
            }
        }

        boolean isGood() {
            int head = headLengthOfKind();
            if (head == NOTHING || length < head || bytes[0] != head - 1) {
                return false;
            }
            if (bytes[head - 4] != CHECK_MARK || bytes[head - 3] != CHECK_SIZE) {
                return false;
            }
            if (plainSum() % CHECK_MODULUS != 0 || weightedSum() % CHECK_MODULUS != 0) {
                return false;
            }
            return hasBodyOfKind(length - head);
        }

        boolean hasBodyOfKind(int body) {
            switch (kind()) {
                case DATA:
                    return body <= PIECE;
                case URGENT:
                    return body == 1;
                default:
                    return body == 0;
            }
        }

        int pairAt(int i) {
            return bytes[i] * 256 + bytes[i + 1];
        }

        int to() {
            return pairAt(2);
        }

        int from() {
            return pairAt(4);
        }

        int credit() {
            return bytes[1] & 15;
        }

        int number() {
            return bytes[4] & NUMBER_MASK;
        }

        boolean isLast() {
            return (bytes[4] & LAST_FLAG) != 0;
        }

        int reason() {
            return bytes[6];
        }
    }

    /** The clock, the units on the way, the record of those sent, and the faults told. */
    private static final class Net {
        final Unit[] ring = new Unit[NET_ROOM];
        final Unit arriving = new Unit();
        final int[] faultKinds = new int[FAULT_ROOM];
        final int[] faultNumbers = new int[FAULT_ROOM];
        final int[] faultPlaces = new int[FAULT_ROOM];
        final int[] faultMasks = new int[FAULT_ROOM];
        /** When each end sent anything latest. */
        final int[] latest = new int[2];
        int faults;
        int count;
        int oldest;
        int now;

        Net() {
            for (int i = 0; i < NET_ROOM; i++) {
                ring[i] = new Unit();
            }
        }

        int addFault(int kind, int number, int place, int mask) {
            if (faults >= FAULT_ROOM) {
                return FULL;
            }
            faultKinds[faults] = kind;
            faultNumbers[faults] = number;
            faultPlaces[faults] = place;
            faultMasks[faults] = mask;
            faults++;
            return faults;
        }

        Unit unitOf(int number) {
            return ring[number & (NET_ROOM - 1)];
        }

        Unit nextUnit() {
            return unitOf(count);
        }

        void dispatch(int sender) {
            Unit unit = unitOf(count);
            unit.fillChecks(unit.plainSum(), unit.weightedSum());
            unit.sender = sender;
            unit.arrival = now + DELAY;
            unit.secondArrival = NEVER;
            unit.spoilingMask = 0;
            applyFaults(unit);
            latest[sender] = now;
            count++;
            if (count - oldest > NET_ROOM) {
                oldest = count - NET_ROOM;
            }
        }

        void applyFaults(Unit unit) {
            boolean lost = false;
            boolean doubled = false;
            for (int i = 0; i < faults; i++) {
                if (faultNumbers[i] != count) {
                    continue;
                }
                switch (faultKinds[i]) {
                    case LOST:
                        lost = true;
                        break;
                    case DOUBLED:
                        doubled = true;
                        break;
                    case DELAYED:
                        unit.arrival = now + DELAY + LONG_DELAY;
                        break;
                    default:
                        unit.spoiledPlace = faultPlaces[i];
                        unit.spoilingMask = faultMasks[i];
                        break;
                }
            }
            if (lost) {
                unit.arrival = NEVER;
            } else if (doubled) {
                unit.secondArrival = unit.arrival + 1;
            }
        }

        boolean arrivesNow(int number, boolean second) {
            Unit unit = unitOf(number);
            return (second ? unit.secondArrival : unit.arrival) == now;
        }

        /** The record keeps a unit as it was sent, so it is a copy that is spoiled. */
        Unit unitAsItArrives(int number) {
            Unit unit = unitOf(number);
            System.arraycopy(unit.bytes, 0, arriving.bytes, 0, UNIT_ROOM);
            arriving.length = unit.length;
            arriving.sender = unit.sender;
            if (unit.spoilingMask != 0 && unit.length > 0) {
                arriving.bytes[unit.spoiledPlace % unit.length] ^= unit.spoilingMask;
            }
            return arriving;
        }

        void forgetArrived() {
            while (oldest < count && unitOf(oldest).arrival <= now && unitOf(oldest).secondArrival <= now) {
                oldest++;
            }
        }

        int recordedByte(int number, int i) {
            if (number < 0 || number >= count || number < count - RECORD) {
                return BAD;
            }
            Unit unit = unitOf(number);
            if (i < 0 || i >= unit.length) {
                return BAD;
            }
            return unit.bytes[i];
        }
    }

    /** How often, and when latest, a unit that waits for an answer was sent. */
    private static final class Wait {
        int times;
        int latest;

        void clear() {
            times = 0;
        }

        void count(int now) {
            times++;
            latest = now;
        }

        boolean isOver(int now) {
            return times > 0 && now - latest >= AGAIN_TICKS;
        }

        boolean isDueAgain(int now) {
            return times < MOST_TIMES && isOver(now);
        }

        boolean isSpent(int now) {
            return times >= MOST_TIMES && isOver(now);
        }
    }

    /** A piece of a message that waits to be sent or for its receipt. */
    private static final class Piece {
        final int[] bytes = new int[PIECE];
        final Wait wait = new Wait();
        int length;
        boolean last;
    }

    /** The pieces of the messages that an end was given; the first of them has the number that the peer expects. */
    private static final class Outbox {
        final Piece[] ring = new Piece[OUT_ROOM];
        int first;
        int waiting;
        int started;
        int peerExpects;
        int peerCredit;

        Outbox() {
            for (int i = 0; i < OUT_ROOM; i++) {
                ring[i] = new Piece();
            }
        }

        void clear() {
            waiting = 0;
            started = 0;
            peerExpects = 0;
            peerCredit = 0;
        }

        Piece pieceAt(int i) {
            return ring[(first + i) % OUT_ROOM];
        }

        int numberAt(int i) {
            return (peerExpects + i) & NUMBER_MASK;
        }

        static int piecesOf(int length) {
            return length == 0 ? 1 : (length + PIECE - 1) / PIECE;
        }

        boolean hasRoomFor(int length) {
            return waiting + piecesOf(length) <= OUT_ROOM;
        }

        void addMessage(int[] message, int length) {
            int pieces = piecesOf(length);
            for (int i = 0; i < pieces; i++) {
                Piece piece = pieceAt(waiting);
                int from = i * PIECE;
                piece.length = Math.min(PIECE, length - from);
                piece.last = i == pieces - 1;
                piece.wait.clear();
                System.arraycopy(message, from, piece.bytes, 0, piece.length);
                waiting++;
            }
        }

        boolean maySendNext() {
            return started < waiting && started < peerCredit;
        }

        void dropUnsent() {
            waiting = started;
        }

        void readReceipt(int number, int credit) {
            int done = (number - peerExpects) & NUMBER_MASK;
            if (done > started) {
                return;
            }
            first = (first + done) % OUT_ROOM;
            waiting -= done;
            started -= done;
            peerExpects = number;
            peerCredit = credit;
        }

        boolean isSpent(int now) {
            for (int i = 0; i < started; i++) {
                if (pieceAt(i).wait.isSpent(now)) {
                    return true;
                }
            }
            return false;
        }
    }

    /** The messages that came: those that are there, the unfinished one, and the units kept for later. */
    private static final class Inbox {
        final int[][] kept = new int[KEPT_ROOM][PIECE];
        final int[] keptLengths = new int[KEPT_ROOM];
        final boolean[] keptIsLast = new boolean[KEPT_ROOM];
        final boolean[] isKept = new boolean[KEPT_ROOM];
        final int[] bytes = new int[IN_UNITS * PIECE];
        final int[] lengths = new int[IN_UNITS];
        final int[] units = new int[IN_UNITS];
        final int[] taken = new int[IN_UNITS * PIECE];
        int expected;
        int filled;
        int messages;
        int unitsThere;
        int unfinishedLength;
        int unfinishedUnits;
        int takenLength;

        /** The message taken latest stays: it belongs to the end, not to a connection. */
        void clear() {
            for (int i = 0; i < KEPT_ROOM; i++) {
                isKept[i] = false;
            }
            expected = 0;
            filled = 0;
            messages = 0;
            unitsThere = 0;
            unfinishedLength = 0;
            unfinishedUnits = 0;
        }

        int credit() {
            return Math.max(0, FULL_CREDIT - unitsThere);
        }

        void accept(Unit unit) {
            int number = unit.number();
            int slot = number & (KEPT_ROOM - 1);
            boolean fits = ((number - expected) & NUMBER_MASK) < credit();
            if (!fits || isKept[slot]) {
                return;
            }
            int head = unit.headLengthOfKind();
            isKept[slot] = true;
            keptIsLast[slot] = unit.isLast();
            keptLengths[slot] = unit.length - head;
            System.arraycopy(unit.bytes, head, kept[slot], 0, keptLengths[slot]);
            for (int i = 0; i < KEPT_ROOM && isKept[expected & (KEPT_ROOM - 1)]; i++) {
                appendExpected();
            }
        }

        void appendExpected() {
            int slot = expected & (KEPT_ROOM - 1);
            int length = keptLengths[slot];
            isKept[slot] = false;
            expected = (expected + 1) & NUMBER_MASK;
            if (filled + length > bytes.length || messages >= IN_UNITS) {
                return;
            }
            System.arraycopy(kept[slot], 0, bytes, filled, length);
            filled += length;
            unfinishedLength += length;
            unfinishedUnits++;
            if (keptIsLast[slot]) {
                finishMessage();
            }
        }

        void finishMessage() {
            lengths[messages] = unfinishedLength;
            units[messages] = unfinishedUnits;
            messages++;
            unitsThere += unfinishedUnits;
            unfinishedLength = 0;
            unfinishedUnits = 0;
        }

        int takeNext() {
            if (messages == 0) {
                return NO;
            }
            takenLength = lengths[0];
            System.arraycopy(bytes, 0, taken, 0, takenLength);
            filled -= takenLength;
            System.arraycopy(bytes, takenLength, bytes, 0, filled);
            unitsThere -= units[0];
            messages--;
            System.arraycopy(lengths, 1, lengths, 0, messages);
            System.arraycopy(units, 1, units, 0, messages);
            return takenLength;
        }

        int takenByte(int i) {
            return i < 0 || i >= takenLength ? BAD : taken[i];
        }
    }

    /** The urgent bytes that an end was given; the first of them is the one that is sent. */
    private static final class UrgentOut {
        final int[] bytes = new int[URGENT_OUT_ROOM];
        final Wait wait = new Wait();
        int waiting;
        int number;

        void clear() {
            waiting = 0;
            number = 0;
            wait.clear();
        }

        int add(int b) {
            if (waiting >= URGENT_OUT_ROOM) {
                return FULL;
            }
            bytes[waiting] = b;
            waiting++;
            return waiting;
        }

        boolean maySendNext() {
            return waiting > 0 && wait.times == 0;
        }

        void dropUnsent() {
            waiting = wait.times > 0 ? 1 : 0;
        }

        void readReceipt(int expected) {
            int following = (number + 1) & NUMBER_MASK;
            if (waiting == 0 || wait.times == 0 || expected != following) {
                return;
            }
            waiting--;
            System.arraycopy(bytes, 1, bytes, 0, waiting);
            number = following;
            wait.clear();
        }
    }

    /** The urgent bytes that came and were not taken. */
    private static final class UrgentIn {
        final int[] ring = new int[URGENT_IN_ROOM];
        int first;
        int there;
        int expected;

        void clear() {
            there = 0;
            expected = 0;
        }

        void accept(int number, int b) {
            if (number != expected || there >= URGENT_IN_ROOM) {
                return;
            }
            ring[(first + there) % URGENT_IN_ROOM] = b;
            there++;
            expected = (expected + 1) & NUMBER_MASK;
        }

        int takeByte() {
            if (there == 0) {
                return NO;
            }
            int b = ring[first];
            first = (first + 1) % URGENT_IN_ROOM;
            there--;
            return b;
        }
    }

    /** One end: its state, its connection, and what it sends and hears. */
    private static final class End {
        final int index;
        final Net net;
        final Outbox outbox = new Outbox();
        final Inbox inbox = new Inbox();
        final UrgentOut urgentOut = new UrgentOut();
        final UrgentIn urgentIn = new UrgentIn();
        final Wait linkWait = new Wait();
        int linkCode;
        int state;
        int reference;
        int peerReference;
        int reason = REASON_NONE;
        boolean answered;
        int heardAt;
        int frozenAt;

        End(int index, Net net) {
            this.index = index;
            this.net = net;
        }

        int callPeer() {
            if (state != CLOSED) {
                return NO;
            }
            beginConnection(CALLING, 0);
            awaitLink(CALL | FULL_CREDIT);
            sendAwaitedLink();
            return reference;
        }

        void beginConnection(int newState, int newPeer) {
            outbox.clear();
            inbox.clear();
            urgentOut.clear();
            urgentIn.clear();
            reference = reference == LAST_REFERENCE ? 1 : reference + 1;
            peerReference = newPeer;
            reason = REASON_NONE;
            answered = newState == OPEN;
            heardAt = net.now;
            state = newState;
        }

        int sendMessage(int[] message, int length) {
            if (state != OPEN) {
                return NO;
            }
            if (!outbox.hasRoomFor(length)) {
                return FULL;
            }
            outbox.addMessage(message, length);
            sendNewData();
            return outbox.waiting;
        }

        int sendUrgentByte(int b) {
            if (state != OPEN) {
                return NO;
            }
            int waiting = urgentOut.add(b);
            sendNewUrgent();
            return waiting;
        }

        int endConnection() {
            if (state != OPEN && state != CALLING) {
                return NO;
            }
            outbox.dropUnsent();
            urgentOut.dropUnsent();
            state = CLOSING;
            noteReason(REASON_ORDERLY);
            awaitLink(END);
            sendAwaitedLink();
            return 1;
        }

        int takeMessage() {
            boolean hadNoCredit = inbox.credit() == 0;
            int length = inbox.takeNext();
            if (length >= 0 && hadNoCredit && state == OPEN) {
                sendReceipt();
            }
            return length;
        }

        int tell(int what) {
            switch (what) {
                case 0:
                    return state;
                case 1:
                    return reference;
                case 2:
                    return peerReference;
                case 3:
                    return outbox.numberAt(outbox.started);
                case 4:
                    return inbox.expected;
                case 5:
                    return inbox.credit();
                case 6:
                    return outbox.numberAt(outbox.peerCredit);
                case 7:
                    return inbox.messages;
                case 8:
                    return urgentIn.there;
                case 9:
                    return reason;
                default:
                    return BAD;
            }
        }

        boolean hasConnection() {
            return state == CALLING || state == OPEN || state == CLOSING;
        }

        void noteReason(int newReason) {
            if (reason == REASON_NONE) {
                reason = newReason;
            }
        }

        void freeze() {
            state = FROZEN;
            frozenAt = net.now;
        }

        void hear(Unit unit) {
            int kind = unit.kind();
            if (kind == CALL) {
                hearCall(unit);
            } else if (hasConnection() && unit.to() == reference) {
                heardAt = net.now;
                endWaitOf(ANSWER | FULL_CREDIT);
                hearForConnection(unit, kind);
            } else if (kind == END) {
                sendLink(END_RECEIPT, unit.from(), unit.to(), 0);
            }
        }

        void hearCall(Unit unit) {
            if (state == CLOSED) {
                beginConnection(OPEN, unit.from());
                outbox.peerCredit = unit.credit();
                awaitLink(ANSWER | FULL_CREDIT);
                sendAwaitedLink();
                return;
            }
            boolean isAnswered = state == OPEN && answered && peerReference == unit.from();
            if (!isAnswered) {
                sendLink(END, unit.from(), 0, REASON_REFUSED);
            }
        }

        void hearForConnection(Unit unit, int kind) {
            switch (kind) {
                case ANSWER:
                    if (acceptsAnswer(unit)) {
                        sendReceipt();
                    }
                    break;
                case DATA:
                    inbox.accept(unit);
                    sendReceipt();
                    break;
                case URGENT:
                    urgentIn.accept(unit.number(), unit.bytes[unit.headLengthOfKind()]);
                    sendNumbered(URGENT_RECEIPT, urgentIn.expected);
                    break;
                case RECEIPT:
                    if (state == OPEN) {
                        outbox.readReceipt(unit.number(), unit.credit());
                        sendNewData();
                    }
                    break;
                case URGENT_RECEIPT:
                    if (state == OPEN) {
                        urgentOut.readReceipt(unit.number());
                        sendNewUrgent();
                    }
                    break;
                case END:
                    hearEnd(unit);
                    break;
                case END_RECEIPT:
                    if (state == CLOSING) {
                        freeze();
                    }
                    break;
                default:
                    break;
            }
        }

        boolean acceptsAnswer(Unit unit) {
            if (state == CALLING) {
                state = OPEN;
                peerReference = unit.from();
                outbox.peerCredit = unit.credit();
                endWaitOf(CALL | FULL_CREDIT);
                return true;
            }
            return state == OPEN && peerReference == unit.from();
        }

        void hearEnd(Unit unit) {
            noteReason(unit.reason());
            sendLink(END_RECEIPT, unit.from(), reference, 0);
            if (state == CALLING) {
                state = CLOSED;
            } else {
                freeze();
            }
        }

        void passTick() {
            if (hasConnection()) {
                sendDueAgain();
                if (mustGiveUp()) {
                    giveUp();
                } else if (state == OPEN && net.now - net.latest[index] >= QUIET_TICKS) {
                    sendReceipt();
                }
            }
            if (state == FROZEN && net.now - frozenAt >= FROZEN_TICKS) {
                state = CLOSED;
            }
        }

        void sendDueAgain() {
            if (linkWait.isDueAgain(net.now)) {
                sendAwaitedLink();
            }
            for (int i = 0; i < outbox.started; i++) {
                if (outbox.pieceAt(i).wait.isDueAgain(net.now)) {
                    sendPiece(i);
                }
            }
            if (urgentOut.wait.isDueAgain(net.now)) {
                sendFirstUrgent();
            }
        }

        boolean mustGiveUp() {
            int now = net.now;
            boolean spent = linkWait.isSpent(now) || outbox.isSpent(now) || urgentOut.wait.isSpent(now);
            return spent || (state == OPEN && now - heardAt >= DEAF_TICKS);
        }

        void giveUp() {
            noteReason(REASON_GIVEN_UP);
            sendLink(END, peerReference, reference, REASON_GIVEN_UP);
            freeze();
        }

        /** CALL, ANSWER and END take one another's place: only the newest of them waits. */
        void awaitLink(int code) {
            linkCode = code;
            linkWait.clear();
        }

        void endWaitOf(int code) {
            if (linkCode == code) {
                awaitLink(NOTHING);
            }
        }

        void sendAwaitedLink() {
            linkWait.count(net.now);
            sendLink(linkCode, peerReference, reference, linkCode == END ? REASON_ORDERLY : LINK_MARK);
        }

        void sendLink(int code, int to, int from, int tail) {
            net.nextUnit().writeLink(code, to, from, tail);
            net.dispatch(index);
        }

        void sendReceipt() {
            sendNumbered(RECEIPT | inbox.credit(), inbox.expected);
        }

        void sendNumbered(int code, int number) {
            net.nextUnit().writeNumbered(code, peerReference, number);
            net.dispatch(index);
        }

        void sendNewData() {
            for (int i = 0; i < OUT_ROOM && outbox.maySendNext(); i++) {
                sendPiece(outbox.started);
                outbox.started++;
            }
        }

        void sendPiece(int i) {
            Piece piece = outbox.pieceAt(i);
            int number = outbox.numberAt(i);
            Unit unit = net.nextUnit();
            unit.writeNumbered(DATA, peerReference, piece.last ? number | LAST_FLAG : number);
            for (int k = 0; k < piece.length; k++) {
                unit.add(piece.bytes[k]);
            }
            piece.wait.count(net.now);
            net.dispatch(index);
        }

        void sendNewUrgent() {
            if (urgentOut.maySendNext()) {
                sendFirstUrgent();
            }
        }

        void sendFirstUrgent() {
            Unit unit = net.nextUnit();
            unit.writeNumbered(URGENT, peerReference, urgentOut.number);
            unit.add(urgentOut.bytes[0]);
            urgentOut.wait.count(net.now);
            net.dispatch(index);
        }
    }
}
