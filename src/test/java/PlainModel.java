import java.util.ArrayList;
import java.util.List;

/**
 * The document written a second time, in another way: units and packets are objects,
 * a packet is a list of bytes, and the receiver's units are lists too.
 */
final class PlainModel {
    private record Unit(int size, int due, int seed) {
        int letter(int i) {
            return (seed + 7 * i) % 256;
        }
    }

    private record Received(int size, int due, List<Integer> letters) {
    }

    private final int leak;
    private final int capacity;
    private int time;

    private final List<List<Unit>> waiting = new ArrayList<>();
    private final List<List<Unit>> stored = new ArrayList<>();
    private final int[] sentOfCurrent = new int[3];
    private final int[] low = new int[3];
    private final int[] high = new int[3];
    private final int[] packetsSent = new int[3];
    private final int[] late = new int[3];
    private final Integer[] dueBefore = new Integer[3];
    private List<Integer> packet;

    private Integer clock;
    private Integer[] counter;
    private Received[] collected;
    private Received[] latest;
    private int[] arrivedOf;
    private int[] counts;

    PlainModel(int leak, int capacity) {
        this.leak = leak < 1 ? 1 : leak > 14 ? 14 : leak;
        this.capacity = capacity < 20 ? 20 : capacity > 200 ? 200 : capacity;
        for (int s = 0; s < 3; s++) {
            waiting.add(new ArrayList<>());
            stored.add(new ArrayList<>());
        }
        retune();
    }

    int add(int stream, int size, int due, int seed) {
        if (!in(stream, 0, 2) || !in(size, 1, 60) || !in(seed, 0, 255)) {
            return -1;
        }
        if (!in(due, time + 1, time + 1000)) {
            return -3;
        }
        if (dueBefore[stream] != null && due <= dueBefore[stream]) {
            return -3;
        }
        if (waiting.get(stream).size() == 8) {
            return -2;
        }
        dueBefore[stream] = due;
        waiting.get(stream).add(new Unit(size, due, seed));
        return waiting.get(stream).size();
    }

    int tick(int n) {
        if (!in(n, 0, 40)) {
            return -1;
        }
        for (int i = 0; i < n; i++) {
            makeTick();
            receive(packet);
        }
        return time;
    }

    int lose(int n) {
        if (!in(n, 0, 40)) {
            return -1;
        }
        for (int i = 0; i < n; i++) {
            makeTick();
        }
        return time;
    }

    int spoil(int i, int bits) {
        if (!in(i, 0, 15) || !in(bits, 0, 255)) {
            return -1;
        }
        makeTick();
        List<Integer> spoilt = new ArrayList<>(packet);
        spoilt.set(i, spoilt.get(i) ^ bits);
        receive(spoilt);
        return time;
    }

    int packet(int i) {
        return in(i, 0, 15) && packet != null ? packet.get(i) : -1;
    }

    int waiting(int s) {
        return in(s, 0, 2) ? waiting.get(s).size() : -1;
    }

    int stored(int s) {
        return in(s, 0, 2) ? stored.get(s).size() : -1;
    }

    int levels(int s) {
        return in(s, 0, 2) ? high[s] * 32 + low[s] : -1;
    }

    int late(int s) {
        return in(s, 0, 2) ? late[s] : -1;
    }

    int clock() {
        return clock == null ? -1 : clock;
    }

    void retune() {
        clock = null;
        counter = new Integer[3];
        collected = new Received[3];
        latest = new Received[3];
        arrivedOf = new int[3];
        counts = new int[6];
    }

    int count(int k) {
        return in(k, 0, 5) ? counts[k] : -1;
    }

    int latest(int s, int what) {
        if (!in(s, 0, 2) || !in(what, 0, 2) || latest[s] == null) {
            return -1;
        }
        return what == 0 ? latest[s].size() : what == 1 ? latest[s].due() : arrivedOf[s];
    }

    int letter(int s, int i) {
        if (!in(s, 0, 2) || latest[s] == null || !in(i, 0, latest[s].size() - 1)) {
            return -1;
        }
        return latest[s].letters().get(i);
    }

    private static boolean in(int value, int least, int most) {
        return least <= value && value <= most;
    }

    private void makeTick() {
        int t = time;
        for (int s = 0; s < 3; s++) {
            low[s] = low[s] < leak ? 0 : low[s] - leak;
            for (Unit unit : List.copyOf(stored.get(s))) {
                if (unit.due() == t) {
                    stored.get(s).remove(unit);
                    high[s] -= unit.size();
                }
            }
            if (!waiting.get(s).isEmpty() && waiting.get(s).get(0).due() == t) {
                late[s]++;
                high[s] -= sentOfCurrent[s];
                sentOfCurrent[s] = 0;
                waiting.get(s).remove(0);
            }
        }
        int sender = 3;
        for (int s = 2; s >= 0; s--) {
            if (ready(s) && (sender == 3
                    || waiting.get(s).get(0).due() <= waiting.get(sender).get(0).due())) {
                sender = s;
            }
        }
        packet = makePacket(sender);
        time = t + 1;
    }

    private int taken(int s) {
        int head = 2;
        if (time % 8 == 0) {
            head += 2;
        }
        if (sentOfCurrent[s] == 0) {
            head += 3;
        }
        return Math.min(16 - head, waiting.get(s).get(0).size() - sentOfCurrent[s]);
    }

    private boolean ready(int s) {
        if (waiting.get(s).isEmpty()) {
            return false;
        }
        int n = taken(s);
        boolean start = sentOfCurrent[s] == 0;
        return low[s] + n <= 28 && high[s] + n <= capacity
                && !(start && stored.get(s).size() >= 8);
    }

    private List<Integer> makePacket(int s) {
        List<Integer> made = new ArrayList<>();
        boolean start = s != 3 && sentOfCurrent[s] == 0;
        int number = s == 3 ? 0 : packetsSent[s]++ % 16;
        made.add(71);
        made.add((start ? 128 : 0) | (time % 8 == 0 ? 64 : 0) | s << 4 | number);
        if (time % 8 == 0) {
            made.add(time / 256 % 256);
            made.add(time % 256);
        }
        if (s != 3) {
            Unit unit = waiting.get(s).get(0);
            int n = taken(s);
            if (start) {
                made.add(unit.size());
                made.add(unit.due() / 256 % 256);
                made.add(unit.due() % 256);
            }
            for (int i = 0; i < n; i++) {
                made.add(unit.letter(sentOfCurrent[s]++));
            }
            low[s] += n;
            high[s] += n;
            if (sentOfCurrent[s] == unit.size()) {
                stored.get(s).add(waiting.get(s).remove(0));
                sentOfCurrent[s] = 0;
            }
        }
        while (made.size() < 16) {
            made.add(255);
        }
        return made;
    }

    private void receive(List<Integer> came) {
        List<Integer> rest = new ArrayList<>(came);
        Integer grown = clock == null ? null : clock == 65535 ? 0 : clock + 1;
        if (rest.remove(0) != 71) {
            counts[0]++;
            clock = grown;
            return;
        }
        int flags = rest.remove(0);
        clock = (flags & 64) == 64 ? Integer.valueOf(rest.remove(0) * 256 + rest.remove(0)) : grown;
        int s = flags >> 4 & 3;
        if (s == 3) {
            return;
        }
        int number = flags & 15;
        if (counter[s] != null && number != (counter[s] == 15 ? 0 : counter[s] + 1)) {
            counts[1]++;
            breakCollected(s);
        }
        counter[s] = number;
        if (flags >= 128) {
            breakCollected(s);
            int size = rest.remove(0);
            int due = rest.remove(0) * 256 + rest.remove(0);
            if (!in(size, 1, 60)) {
                counts[3]++;
                return;
            }
            collected[s] = new Received(size, due, new ArrayList<>());
        }
        if (collected[s] != null) {
            collect(s, rest);
        }
    }

    private void breakCollected(int s) {
        if (collected[s] != null) {
            counts[2]++;
            collected[s] = null;
        }
    }

    private void collect(int s, List<Integer> rest) {
        Received unit = collected[s];
        while (!rest.isEmpty() && unit.letters().size() < unit.size()) {
            unit.letters().add(rest.remove(0));
        }
        if (unit.letters().size() == unit.size()) {
            latest[s] = unit;
            collected[s] = null;
            arrivedOf[s]++;
            counts[4]++;
            if (clock != null && in((unit.due() - clock + 65536) % 65536, 1, 32767)) {
                counts[5]++;
            }
        }
    }
}
