/**
 * Three streams of units are cut into packets and sent on one line, a packet a tick;
 * a receiver puts the units together again. All rows are made in the constructors and
 * used again, so that no call makes an object.
 */
public final class PacedMux {
    public static final int BAD = -1;
    public static final int FULL = -2;
    public static final int ORDER = -3;

    private static final int STREAMS = 3;
    private static final int NO_STREAM = 3;
    private static final int MAX_UNITS = 8;
    private static final int MAX_SIZE = 60;
    private static final int MAX_BYTE = 255;
    private static final int BYTE_VALUES = 256;
    private static final int SEED_STEP = 7;
    private static final int MAX_AHEAD = 1000;
    private static final int MAX_TICKS = 40;
    private static final int MAX_LOW = 28;
    private static final int HIGH_STEP = 32;
    private static final int MIN_LEAK = 1;
    private static final int MAX_LEAK = 14;
    private static final int MIN_CAPACITY = 20;
    private static final int MAX_CAPACITY = 200;

    private static final int PACKET_BYTES = 16;
    private static final int FIRST_BYTE = 71;
    private static final int REST_BYTE = 255;
    private static final int START_FLAG = 128;
    private static final int CLOCK_FLAG = 64;
    private static final int STREAM_STEP = 16;
    private static final int STREAM_NUMBERS = 4;
    private static final int COUNTERS = 16;
    private static final int HEAD_BYTES = 2;
    private static final int CLOCK_BYTES = 2;
    private static final int START_BYTES = 3;
    private static final int CLOCK_PERIOD = 8;
    private static final int TIMES = 65536;
    private static final int MAX_TIMELY = 32767;

    private static final int IGNORED = 0;
    private static final int GAPS = 1;
    private static final int BROKEN = 2;
    private static final int STRANGE = 3;
    private static final int ARRIVED = 4;
    private static final int TIMELY = 5;
    private static final int TALLIES = 6;

    private final int leak;
    private final int capacity;
    private final Sender[] senders;
    private final Receiver receiver;
    private final Packet sentPacket;
    private final Packet arrivingPacket;
    private int time;
    private boolean ticked;

    public PacedMux(int leak, int capacity) {
        this.leak = Math.max(MIN_LEAK, Math.min(MAX_LEAK, leak));
        this.capacity = Math.max(MIN_CAPACITY, Math.min(MAX_CAPACITY, capacity));
        senders = new Sender[STREAMS];
        for (int i = 0; i < STREAMS; i++) {
            senders[i] = new Sender();
        }
        receiver = new Receiver();
        sentPacket = new Packet();
        arrivingPacket = new Packet();
    }

    public int add(int stream, int size, int due, int seed) {
        if (!isStream(stream) || size < 1 || size > MAX_SIZE || seed < 0 || seed > MAX_BYTE) {
            return BAD;
        }
        Sender sender = senders[stream];
        if (due <= time || due > time + MAX_AHEAD || due <= sender.newestDue) {
            return ORDER;
        }
        if (sender.queue.isFull()) {
            return FULL;
        }
        sender.queue.append(size, due, seed);
        sender.newestDue = due;
        return sender.queue.length;
    }

    public int tick(int n) {
        if (n < 0 || n > MAX_TICKS) {
            return BAD;
        }
        for (int i = 0; i < n; i++) {
            sendPacket();
            receiver.take(sentPacket);
        }
        return time;
    }

    public int lose(int n) {
        if (n < 0 || n > MAX_TICKS) {
            return BAD;
        }
        for (int i = 0; i < n; i++) {
            sendPacket();
        }
        return time;
    }

    public int spoil(int i, int bits) {
        if (!isPacketIndex(i) || bits < 0 || bits > MAX_BYTE) {
            return BAD;
        }
        sendPacket();
        arrivingPacket.copyFrom(sentPacket);
        arrivingPacket.flip(i, bits);
        receiver.take(arrivingPacket);
        return time;
    }

    public int packet(int i) {
        if (!isPacketIndex(i) || !ticked) {
            return BAD;
        }
        return sentPacket.byteAt(i);
    }

    public int waiting(int stream) {
        return isStream(stream) ? senders[stream].queue.length : BAD;
    }

    public int stored(int stream) {
        return isStream(stream) ? senders[stream].store.length : BAD;
    }

    public int levels(int stream) {
        return isStream(stream) ? senders[stream].high * HIGH_STEP + senders[stream].low : BAD;
    }

    public int late(int stream) {
        return isStream(stream) ? senders[stream].lateUnits : BAD;
    }

    public int clock() {
        return receiver.clockKnown ? receiver.clockTime : BAD;
    }

    public void retune() {
        receiver.reset();
    }

    public int count(int k) {
        return k >= 0 && k < TALLIES ? receiver.tallies[k] : BAD;
    }

    public int latest(int stream, int what) {
        if (!isStream(stream) || receiver.collectors[stream].arrivals == 0) {
            return BAD;
        }
        Collector collector = receiver.collectors[stream];
        switch (what) {
            case 0:
                return collector.latestSize;
            case 1:
                return collector.latestDue;
            case 2:
                return collector.arrivals;
            default:
                return BAD;
        }
    }

    public int letter(int stream, int i) {
        if (!isStream(stream) || receiver.collectors[stream].arrivals == 0) {
            return BAD;
        }
        Collector collector = receiver.collectors[stream];
        return i >= 0 && i < collector.latestSize ? collector.latestBytes[i] : BAD;
    }

    private static boolean isStream(int stream) {
        return stream >= 0 && stream < STREAMS;
    }

    private static boolean isPacketIndex(int i) {
        return i >= 0 && i < PACKET_BYTES;
    }

    /** A tick as far as the sending side goes; what becomes of the packet is the caller's. */
    private void sendPacket() {
        for (int i = 0; i < STREAMS; i++) {
            senders[i].beginTick(time, leak);
        }
        boolean withClock = time % CLOCK_PERIOD == 0;
        int stream = chooseStream(withClock);
        sentPacket.clear();
        if (isStream(stream)) {
            fillPacket(stream, withClock);
        } else {
            putHead(NO_STREAM, withClock, false, 0);
        }
        ticked = true;
        time++;
    }

    private int chooseStream(boolean withClock) {
        int chosen = NO_STREAM;
        int leastDue = 0;
        for (int i = 0; i < STREAMS; i++) {
            if (senders[i].isReady(withClock, capacity)) {
                int due = senders[i].queue.firstDue();
                if (chosen == NO_STREAM || due < leastDue) {
                    chosen = i;
                    leastDue = due;
                }
            }
        }
        return chosen;
    }

    private void fillPacket(int stream, boolean withClock) {
        Sender sender = senders[stream];
        putHead(stream, withClock, sender.isAtStart(), sender.takeCounter());
        if (sender.isAtStart()) {
            sentPacket.put(sender.queue.firstSize());
            sentPacket.putTime(sender.queue.firstDue());
        }
        sender.sendBytes(sender.portion(withClock), sentPacket);
    }

    private void putHead(int stream, boolean withClock, boolean start, int counter) {
        sentPacket.put(FIRST_BYTE);
        sentPacket.put((start ? START_FLAG : 0) + (withClock ? CLOCK_FLAG : 0)
                + STREAM_STEP * stream + counter);
        if (withClock) {
            sentPacket.putTime(time);
        }
    }

    /** At most eight units in the order in which they came. */
    private static final class UnitRow {
        private final int[] sizes = new int[MAX_UNITS];
        private final int[] dues = new int[MAX_UNITS];
        private final int[] seeds = new int[MAX_UNITS];
        private int length;

        boolean isFull() {
            return length >= MAX_UNITS;
        }

        boolean isEmpty() {
            return length == 0;
        }

        void append(int size, int due, int seed) {
            if (isFull()) {
                return;
            }
            sizes[length] = size;
            dues[length] = due;
            seeds[length] = seed;
            length++;
        }

        int firstSize() {
            return sizes[0];
        }

        int firstDue() {
            return dues[0];
        }

        int firstSeed() {
            return seeds[0];
        }

        boolean isFirstDueAt(int t) {
            return !isEmpty() && dues[0] == t;
        }

        void dropFirst() {
            if (isEmpty()) {
                return;
            }
            length--;
            for (int i = 0; i < length; i++) {
                sizes[i] = sizes[i + 1];
                dues[i] = dues[i + 1];
                seeds[i] = seeds[i + 1];
            }
        }
    }

    /** The sending side of one stream, and its buffers at the other end. */
    private static final class Sender {
        private final UnitRow queue = new UnitRow();
        private final UnitRow store = new UnitRow();
        private int sentBytes;
        private int low;
        private int high;
        private int nextCounter;
        private int lateUnits;
        private int newestDue;

        /**
         * Times due rise within a stream and none lies in the past, so only the first unit
         * of each row can be due.
         */
        void beginTick(int t, int leak) {
            low = Math.max(0, low - leak);
            if (store.isFirstDueAt(t)) {
                high -= store.firstSize();
                store.dropFirst();
            }
            if (queue.isFirstDueAt(t)) {
                high -= sentBytes;
                lateUnits++;
                dropCurrent();
            }
        }

        boolean isAtStart() {
            return sentBytes == 0;
        }

        /** How many bytes of the current unit a packet takes. */
        int portion(boolean withClock) {
            int room = PACKET_BYTES - HEAD_BYTES - (withClock ? CLOCK_BYTES : 0)
                    - (isAtStart() ? START_BYTES : 0);
            return Math.min(room, queue.firstSize() - sentBytes);
        }

        boolean isReady(boolean withClock, int capacity) {
            if (queue.isEmpty() || isAtStart() && store.isFull()) {
                return false;
            }
            int n = portion(withClock);
            return low + n <= MAX_LOW && high + n <= capacity;
        }

        int takeCounter() {
            int counter = nextCounter;
            nextCounter = (counter + 1) % COUNTERS;
            return counter;
        }

        void sendBytes(int n, Packet packet) {
            for (int i = 0; i < n; i++) {
                packet.put(queue.firstSeed() + SEED_STEP * (sentBytes + i));
            }
            sentBytes += n;
            low += n;
            high += n;
            if (sentBytes >= queue.firstSize()) {
                store.append(queue.firstSize(), queue.firstDue(), queue.firstSeed());
                dropCurrent();
            }
        }

        private void dropCurrent() {
            queue.dropFirst();
            sentBytes = 0;
        }
    }

    /** Sixteen bytes, each held as 0 .. 255; written from the front. */
    private static final class Packet {
        private final int[] bytes = new int[PACKET_BYTES];
        private int used;

        void clear() {
            for (int i = 0; i < PACKET_BYTES; i++) {
                bytes[i] = REST_BYTE;
            }
            used = 0;
        }

        void put(int value) {
            if (used < PACKET_BYTES) {
                bytes[used] = value & MAX_BYTE;
                used++;
            }
        }

        void putTime(int t) {
            put(t / BYTE_VALUES);
            put(t);
        }

        int byteAt(int i) {
            return isPacketIndex(i) ? bytes[i] : REST_BYTE;
        }

        int timeAt(int i) {
            return byteAt(i) * BYTE_VALUES + byteAt(i + 1);
        }

        void copyFrom(Packet other) {
            for (int i = 0; i < PACKET_BYTES; i++) {
                bytes[i] = other.bytes[i];
            }
        }

        void flip(int i, int bits) {
            if (isPacketIndex(i)) {
                bytes[i] ^= bits;
            }
        }
    }

    /** What the receiver holds of one stream. */
    private static final class Collector {
        private boolean hasCounter;
        private int lastCounter;
        private boolean collecting;
        private int size;
        private int due;
        private int filled;
        private int[] bytes = new int[MAX_SIZE];
        private int latestSize;
        private int latestDue;
        private int[] latestBytes = new int[MAX_SIZE];
        private int arrivals;

        void reset() {
            hasCounter = false;
            collecting = false;
            arrivals = 0;
        }

        /** Notes the counter of a packet that came; true when there is a gap before it. */
        boolean noteCounter(int counter) {
            boolean gap = hasCounter && counter != (lastCounter + 1) % COUNTERS;
            hasCounter = true;
            lastCounter = counter;
            return gap;
        }

        void begin(int unitSize, int unitDue) {
            collecting = true;
            size = unitSize;
            due = unitDue;
            filled = 0;
        }

        /** Takes the bytes from place at on; true when the unit is whole by them. */
        boolean fill(Packet packet, int at) {
            for (int i = at; i < PACKET_BYTES && filled < size && filled < MAX_SIZE; i++) {
                bytes[filled] = packet.byteAt(i);
                filled++;
            }
            return filled >= size;
        }

        /** The two rows change places, so that the next unit does not write over the latest. */
        void keepAsLatest() {
            int[] spare = latestBytes;
            latestBytes = bytes;
            bytes = spare;
            latestSize = size;
            latestDue = due;
            arrivals++;
            collecting = false;
        }
    }

    private static final class Receiver {
        private final Collector[] collectors = new Collector[STREAMS];
        private final int[] tallies = new int[TALLIES];
        private boolean clockKnown;
        private int clockTime;

        Receiver() {
            for (int i = 0; i < STREAMS; i++) {
                collectors[i] = new Collector();
            }
        }

        void reset() {
            clockKnown = false;
            clockTime = 0;
            for (int i = 0; i < STREAMS; i++) {
                collectors[i].reset();
            }
            for (int k = 0; k < TALLIES; k++) {
                tallies[k] = 0;
            }
        }

        void take(Packet packet) {
            if (packet.byteAt(0) != FIRST_BYTE) {
                tallies[IGNORED]++;
                advanceClock();
                return;
            }
            int head = packet.byteAt(1);
            int at = HEAD_BYTES;
            if ((head & CLOCK_FLAG) != 0) {
                clockTime = packet.timeAt(at);
                clockKnown = true;
                at += CLOCK_BYTES;
            } else {
                advanceClock();
            }
            int stream = head / STREAM_STEP % STREAM_NUMBERS;
            if (isStream(stream)) {
                takeOfStream(collectors[stream], packet, at);
            }
        }

        private void takeOfStream(Collector collector, Packet packet, int at) {
            int head = packet.byteAt(1);
            if (collector.noteCounter(head % COUNTERS)) {
                tallies[GAPS]++;
                breakUnit(collector);
            }
            int behind = at;
            if ((head & START_FLAG) != 0) {
                breakUnit(collector);
                beginUnit(collector, packet, at);
                behind += START_BYTES;
            }
            if (collector.collecting && collector.fill(packet, behind)) {
                finishUnit(collector);
            }
        }

        /** A strange start leaves nothing collected, so nothing more comes of its packet. */
        private void beginUnit(Collector collector, Packet packet, int at) {
            int size = packet.byteAt(at);
            if (size < 1 || size > MAX_SIZE) {
                tallies[STRANGE]++;
            } else {
                collector.begin(size, packet.timeAt(at + 1));
            }
        }

        private void breakUnit(Collector collector) {
            if (collector.collecting) {
                collector.collecting = false;
                tallies[BROKEN]++;
            }
        }

        private void finishUnit(Collector collector) {
            collector.keepAsLatest();
            tallies[ARRIVED]++;
            int ahead = Math.floorMod(collector.latestDue - clockTime, TIMES);
            if (clockKnown && ahead >= 1 && ahead <= MAX_TIMELY) {
                tallies[TIMELY]++;
            }
        }

        private void advanceClock() {
            if (clockKnown) {
                clockTime = (clockTime + 1) % TIMES;
            }
        }
    }
}
