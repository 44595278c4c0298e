/**
 * A link of two ends: units in frames on two lines, with numbers and indicators forwards and
 * backwards, and messages that are kept until they are told as taken.
 */
public final class LinkPair {
    public static final int NONE = -1;

    private static final int MOST_FRAMES = 40;
    private static final int MOST_FRAME_BITS = 3000;
    private static final int WORD_BITS = 64;

    private static final int FLAG = 126;
    private static final int FLAG_BITS = 8;
    private static final int ONES_BEFORE_STUFFING = 5;

    private static final int HEAD_BYTES = 3;
    private static final int CHECK_BYTES = 2;
    private static final int MOST_BODY_BYTES = 272;
    private static final int LEAST_UNIT_BYTES = HEAD_BYTES + CHECK_BYTES;
    private static final int MOST_UNIT_BYTES = LEAST_UNIT_BYTES + MOST_BODY_BYTES;
    private static final int LARGEST_TOLD_LENGTH = 63;

    private static final int CHECK_START = 65535;
    private static final int CHECK_TERM = 33800;

    private static final int LARGEST_NUMBER = 127;
    private static final int MOST_WAITING = 60;
    private static final int MOST_UNTOLD = 127;
    private static final int MOST_KEPT = 50;
    private static final int UNITS_PER_LEAK = 256;
    private static final int ERRORS_OF_FAILURE = 64;

    private static final int SENT_FILL = 0;
    private static final int SENT_MESSAGE = 1;
    private static final int SENT_AGAIN = 2;

    private static final int CAME_NOTHING = 0;
    private static final int CAME_MESSAGE = 1;
    private static final int CAME_GAP = 2;
    private static final int CAME_ABNORMAL = 3;
    private static final int LESS_BY_FAILURE = 10;

    private static final int NO_FAULT = 0;
    private static final int FAULT_FLAGS = 1;
    private static final int FAULT_SIX_ONES = 2;
    private static final int FAULT_SIZE = 3;
    private static final int FAULT_CHECK = 4;
    private static final int FAULT_LENGTH = 5;

    private static final int MOST_FACT = 11;

    private final End[] ends;
    /** Each call that needs a unit writes it anew here, so that no call makes objects. */
    private final Unit unit;

    public LinkPair() {
        ends = new End[] {new End(), new End()};
        unit = new Unit();
    }

    public int put(int end, int length, int seed)
            throws IllegalArgumentException, IllegalStateException {
        End at = endOf(end);
        if (length < 1 || length > MOST_BODY_BYTES || seed < 0 || seed > 255) {
            throw new IllegalArgumentException();
        }
        if (at.failed || at.messages.waiting == MOST_WAITING) {
            throw new IllegalStateException();
        }
        at.messages.join(length, seed);
        return at.messages.waiting;
    }

    public int send(int end) throws IllegalArgumentException, IllegalStateException {
        End from = endOf(end);
        if (from.failed || from.line.isFull()) {
            throw new IllegalStateException();
        }
        int kind = from.nextUnit(unit);
        unit.writeTo(from.line.open());
        return kind;
    }

    public int take(int end) throws IllegalArgumentException, IllegalStateException {
        End to = endOf(end);
        Line line = ends[1 - end].line;
        if (to.failed || line.count == 0) {
            throw new IllegalStateException();
        }
        int fault = unit.readFrom(line.frames[0]);
        line.lose(0);
        int answer = to.takeUnit(unit, fault);
        return to.failed ? answer - LESS_BY_FAILURE : answer;
    }

    public int flip(int end, int frame, int i) throws IllegalArgumentException {
        Frame at = frameOf(end, frame);
        if (i < 0 || i >= at.length) {
            throw new IllegalArgumentException();
        }
        at.turn(i);
        return at.valueAt(i);
    }

    public int drop(int end, int frame) throws IllegalArgumentException {
        int length = frameOf(end, frame).length;
        ends[end].line.lose(frame);
        return length;
    }

    public int bits(int end, long w, int n, boolean fresh)
            throws IllegalArgumentException, IllegalStateException {
        Line line = endOf(end).line;
        if (n < 1 || n > WORD_BITS) {
            throw new IllegalArgumentException();
        }
        boolean opens = fresh || line.count == 0;
        if (opens ? line.isFull() : line.last().length + n > MOST_FRAME_BITS) {
            throw new IllegalStateException();
        }
        Frame frame = opens ? line.open() : line.last();
        for (int i = 0; i < n; i++) {
            frame.add((int) (w >>> i) & 1);
        }
        return frame.length;
    }

    public int bit(int end, int frame, int i) throws IllegalArgumentException {
        Frame at = frameOf(end, frame);
        if (i < 0) {
            throw new IllegalArgumentException();
        }
        return i < at.length ? at.valueAt(i) : NONE;
    }

    public int taken(int end, int k, int i) throws IllegalArgumentException {
        Store store = endOf(end).store;
        if (!store.has(k) || i < 0) {
            throw new IllegalArgumentException();
        }
        return store.byteOf(k, i);
    }

    public int check(long w, int n) throws IllegalArgumentException {
        if (n < 0 || n > 8) {
            throw new IllegalArgumentException();
        }
        int rest = CHECK_START;
        for (int i = 0; i < n; i++) {
            rest = restBehind(rest, (int) (w >>> 8 * i) & 255);
        }
        return CHECK_START - rest;
    }

    public int about(int end, int what) throws IllegalArgumentException {
        End of = endOf(end);
        if (what < 0 || what > MOST_FACT) {
            throw new IllegalArgumentException();
        }
        return of.fact(what);
    }

    public void restart(int end) throws IllegalArgumentException {
        endOf(end).beginAnew();
    }

    private End endOf(int end) {
        if (end < 0 || end > 1) {
            throw new IllegalArgumentException();
        }
        return ends[end];
    }

    private Frame frameOf(int end, int frame) {
        Line line = endOf(end).line;
        if (frame < 0 || frame >= line.count) {
            throw new IllegalArgumentException();
        }
        return line.frames[frame];
    }

    /** What is left of the check's register after one byte more. */
    private static int restBehind(int rest, int value) {
        int left = rest;
        for (int i = 0; i < 8; i++) {
            boolean differs = (left & 1) != (value >> i & 1);
            left = differs ? left >> 1 ^ CHECK_TERM : left >> 1;
        }
        return left;
    }

    private static int nextNumber(int number) {
        return number + 1 & LARGEST_NUMBER;
    }

    /** A row of bits, packed in words because an object has eighty rows of up to 3000. */
    private static final class Frame {
        private final long[] words = new long[(MOST_FRAME_BITS + WORD_BITS - 1) / WORD_BITS];
        private int length;

        int valueAt(int i) {
            return (int) (words[i / WORD_BITS] >>> i % WORD_BITS) & 1;
        }

        void turn(int i) {
            words[i / WORD_BITS] ^= 1L << i % WORD_BITS;
        }

        void add(int value) {
            length++;
            if (valueAt(length - 1) != value) {
                turn(length - 1);
            }
        }

        void addFlag() {
            for (int i = 0; i < FLAG_BITS; i++) {
                add(FLAG >> i & 1);
            }
        }

        boolean hasFlagAt(int start) {
            boolean same = true;
            for (int i = 0; i < FLAG_BITS; i++) {
                same = same && valueAt(start + i) == (FLAG >> i & 1);
            }
            return same;
        }

        boolean isBetweenFlags() {
            return length >= 2 * FLAG_BITS && hasFlagAt(0) && hasFlagAt(length - FLAG_BITS);
        }

        boolean hasSixOnesBetweenFlags() {
            int ones = 0;
            for (int i = FLAG_BITS; i < length - FLAG_BITS; i++) {
                ones = valueAt(i) == 1 ? ones + 1 : 0;
                if (ones > ONES_BEFORE_STUFFING) {
                    return true;
                }
            }
            return false;
        }
    }

    /** The frames on their way from one end to the other, the first to come first. */
    private static final class Line {
        private final Frame[] frames = new Frame[MOST_FRAMES];
        private int count;

        Line() {
            for (int i = 0; i < MOST_FRAMES; i++) {
                frames[i] = new Frame();
            }
        }

        boolean isFull() {
            return count == MOST_FRAMES;
        }

        Frame last() {
            return frames[count - 1];
        }

        Frame open() {
            count++;
            last().length = 0;
            return last();
        }

        /** The lost frame goes behind the others, where it is used again. */
        void lose(int frame) {
            Frame lost = frames[frame];
            for (int i = frame; i < count - 1; i++) {
                frames[i] = frames[i + 1];
            }
            count--;
            frames[count] = lost;
        }
    }

    /** The bytes of one unit with its check. */
    private static final class Unit {
        private final int[] bytes = new int[MOST_UNIT_BYTES];
        private int count;

        int backwardNumber() {
            return bytes[0] & LARGEST_NUMBER;
        }

        int backwardIndicator() {
            return bytes[0] >> 7;
        }

        int forwardNumber() {
            return bytes[1] & LARGEST_NUMBER;
        }

        int forwardIndicator() {
            return bytes[1] >> 7;
        }

        int bodyLength() {
            return count - LEAST_UNIT_BYTES;
        }

        int bodyByte(int i) {
            return bytes[HEAD_BYTES + i];
        }

        void writeHead(int backward, int forward, int length) {
            bytes[0] = backward;
            bytes[1] = forward;
            bytes[2] = Math.min(length, LARGEST_TOLD_LENGTH);
            count = LEAST_UNIT_BYTES + length;
        }

        void writeBody(int seed) {
            for (int i = 0; i < bodyLength(); i++) {
                bytes[HEAD_BYTES + i] = seed + 37 * i + i / 8 & 255;
            }
        }

        void writeCheck() {
            int check = checkDue();
            bytes[count - 2] = check & 255;
            bytes[count - 1] = check >> 8;
        }

        int checkDue() {
            int rest = CHECK_START;
            for (int i = 0; i < count - CHECK_BYTES; i++) {
                rest = restBehind(rest, bytes[i]);
            }
            return CHECK_START - rest;
        }

        void writeTo(Frame frame) {
            frame.addFlag();
            int ones = 0;
            for (int i = 0; i < 8 * count; i++) {
                int value = bytes[i / 8] >> i % 8 & 1;
                frame.add(value);
                ones = value == 1 ? ones + 1 : 0;
                if (ones == ONES_BEFORE_STUFFING) {
                    frame.add(0);
                    ones = 0;
                }
            }
            frame.addFlag();
        }

        /** The first fault of the frame; without one, this unit is then what the frame holds. */
        int readFrom(Frame frame) {
            if (!frame.isBetweenFlags()) {
                return FAULT_FLAGS;
            }
            if (frame.hasSixOnesBetweenFlags()) {
                return FAULT_SIX_ONES;
            }
            int size = readBits(frame);
            if (size % 8 != 0 || size < 8 * LEAST_UNIT_BYTES || size > 8 * MOST_UNIT_BYTES) {
                return FAULT_SIZE;
            }
            count = size / 8;
            if (bytes[count - 2] + 256 * bytes[count - 1] != checkDue()) {
                return FAULT_CHECK;
            }
            return bytes[2] == Math.min(bodyLength(), LARGEST_TOLD_LENGTH) ? NO_FAULT : FAULT_LENGTH;
        }

        /** How many bits there are without the stuffed ones; those that a unit can't hold are only counted. */
        private int readBits(Frame frame) {
            int size = 0;
            int ones = 0;
            for (int i = FLAG_BITS; i < frame.length - FLAG_BITS; i++) {
                if (ones == ONES_BEFORE_STUFFING) {
                    ones = 0;
                    continue;
                }
                int value = frame.valueAt(i);
                ones = value == 1 ? ones + 1 : 0;
                if (size < 8 * MOST_UNIT_BYTES) {
                    writeBit(size, value);
                }
                size++;
            }
            return size;
        }

        private void writeBit(int i, int value) {
            int before = i % 8 == 0 ? 0 : bytes[i / 8];
            bytes[i / 8] = before | value << i % 8;
        }
    }

    /**
     * The messages of an end in one ring, the oldest first: those that were sent and are not told
     * as taken, of which the last ones may go again, and behind them those that wait. A message is
     * held as its length and its seed, which tell all its bytes.
     */
    private static final class Messages {
        private final int[] lengths = new int[MOST_UNTOLD + MOST_WAITING];
        private final int[] seeds = new int[MOST_UNTOLD + MOST_WAITING];
        private int first;
        private int untold;
        private int again;
        private int waiting;

        int placeOf(int i) {
            return (first + i) % lengths.length;
        }

        void join(int length, int seed) {
            int place = placeOf(untold + waiting);
            lengths[place] = length;
            seeds[place] = seed;
            waiting++;
        }

        boolean mayGoFirstTime() {
            return waiting > 0 && untold < MOST_UNTOLD;
        }

        void goFirstTime() {
            waiting--;
            untold++;
        }

        void forget(int told) {
            first = placeOf(told);
            untold -= told;
            again = Math.min(again, untold);
        }

        void empty() {
            untold = 0;
            again = 0;
            waiting = 0;
        }
    }

    /** The latest messages that an end took. */
    private static final class Store {
        private final byte[] bytes = new byte[MOST_KEPT * MOST_BODY_BYTES];
        private final int[] lengths = new int[MOST_KEPT];
        private int total;

        void keep(Unit unit) {
            int row = total % MOST_KEPT;
            lengths[row] = unit.bodyLength();
            for (int i = 0; i < lengths[row]; i++) {
                bytes[row * MOST_BODY_BYTES + i] = (byte) unit.bodyByte(i);
            }
            total++;
        }

        boolean has(int k) {
            return k >= 0 && k < total && k >= total - MOST_KEPT;
        }

        int byteOf(int k, int i) {
            int row = k % MOST_KEPT;
            return i < lengths[row] ? bytes[row * MOST_BODY_BYTES + i] & 255 : NONE;
        }
    }

    private static final class End {
        private final Line line = new Line();
        private final Messages messages = new Messages();
        private final Store store = new Store();
        private int forwardIndicator = 1;
        private int backwardIndicator = 1;
        private int sentNumber = LARGEST_NUMBER;
        private int takenNumber = LARGEST_NUMBER;
        private int errors;
        private int units;
        private boolean failed;
        /** Whether the unit without fault before this one was abnormal, and the one before that. */
        private boolean abnormalLast;
        private boolean abnormalLastButOne;

        void beginAnew() {
            line.count = 0;
            messages.empty();
            forwardIndicator = 1;
            backwardIndicator = 1;
            sentNumber = LARGEST_NUMBER;
            takenNumber = LARGEST_NUMBER;
            errors = 0;
            units = 0;
            failed = false;
            abnormalLast = false;
            abnormalLastButOne = false;
        }

        /** Writes what the end sends next into the unit: which kind it is. */
        int nextUnit(Unit unit) {
            if (messages.again > 0) {
                int ahead = messages.again - 1;
                messages.again = ahead;
                writeMessage(unit, ahead);
                return SENT_AGAIN;
            }
            if (messages.mayGoFirstTime()) {
                messages.goFirstTime();
                sentNumber = nextNumber(sentNumber);
                writeMessage(unit, 0);
                return SENT_MESSAGE;
            }
            writeUnit(unit, sentNumber, 0, 0);
            return SENT_FILL;
        }

        /** The message that has so many behind it of those that were sent. */
        private void writeMessage(Unit unit, int behind) {
            int place = messages.placeOf(messages.untold - 1 - behind);
            int number = sentNumber - behind & LARGEST_NUMBER;
            writeUnit(unit, number, messages.lengths[place], messages.seeds[place]);
        }

        private void writeUnit(Unit unit, int number, int length, int seed) {
            int backward = takenNumber + 128 * backwardIndicator;
            unit.writeHead(backward, number + 128 * forwardIndicator, length);
            unit.writeBody(seed);
            unit.writeCheck();
        }

        int takeUnit(Unit unit, int fault) {
            units++;
            if (units % UNITS_PER_LEAK == 0 && errors > 0) {
                errors--;
            }
            if (fault != NO_FAULT) {
                errors++;
                failed = errors >= ERRORS_OF_FAILURE;
                return -fault;
            }
            boolean abnormal = isAbnormal(unit);
            failed = abnormal && (abnormalLast || abnormalLastButOne);
            abnormalLastButOne = abnormalLast;
            abnormalLast = abnormal;
            if (abnormal) {
                return CAME_ABNORMAL;
            }
            takeBackward(unit);
            return takeForward(unit);
        }

        private int toldBy(Unit unit) {
            int toldLatest = sentNumber - messages.untold;
            return unit.backwardNumber() - toldLatest & LARGEST_NUMBER;
        }

        private boolean isAbnormal(Unit unit) {
            return toldBy(unit) > messages.untold;
        }

        private void takeBackward(Unit unit) {
            messages.forget(toldBy(unit));
            if (unit.backwardIndicator() != forwardIndicator) {
                forwardIndicator = 1 - forwardIndicator;
                messages.again = messages.untold;
            }
        }

        private int takeForward(Unit unit) {
            if (unit.forwardIndicator() != backwardIndicator) {
                return CAME_NOTHING;
            }
            int number = unit.forwardNumber();
            if (number == takenNumber) {
                return CAME_NOTHING;
            }
            if (unit.bodyLength() > 0 && number == nextNumber(takenNumber)) {
                takenNumber = number;
                store.keep(unit);
                return CAME_MESSAGE;
            }
            backwardIndicator = 1 - backwardIndicator;
            return CAME_GAP;
        }

        int fact(int what) {
            switch (what) {
                case 0: return forwardIndicator;
                case 1: return backwardIndicator;
                case 2: return sentNumber;
                case 3: return takenNumber;
                case 4: return messages.waiting;
                case 5: return messages.untold;
                case 6: return messages.again;
                case 7: return store.total;
                case 8: return line.count;
                case 9: return errors;
                case 10: return units;
                default: return failed ? 1 : 0;
            }
        }
    }
}
