/** Long runs of calls, the same each time, against the plain model. */
public final class ModelTest {
    private static final int RUNS = 5000;
    /** An object is used for at most 512 calls: each step is a call and two questions. */
    private static final int STEPS = 170;
    private static final int QUESTIONS = 2;
    private static final int[] EDGES = {-1, 0, 1, 2, 3, 15, 16, 40, 41, 60, 61, 255, 256,
            Integer.MIN_VALUE, Integer.MAX_VALUE};

    private static final Check CHECK = new Check();
    private static long state;

    public static void main(String[] args) {
        // What goes wrong in one run goes wrong in many: the first one tells enough.
        for (int run = 1; run <= RUNS && CHECK.isRight(); run++) {
            state = run * 7919L;
            oneRun(run);
        }
        CHECK.end();
    }

    /** A number from 0 to bound - 1; the same row of numbers in each run of the test. */
    private static int below(int bound) {
        state = state * 6364136223846793005L + 1442695040888963407L;
        return (int) ((state >>> 33) % bound);
    }

    private static int between(int least, int most) {
        return least + below(most - least + 1);
    }

    /** Now and then a number from the edges in place of an ordinary one. */
    private static int orEdge(int ordinary) {
        return below(60) == 0 ? EDGES[below(EDGES.length)] : ordinary;
    }

    private static void oneRun(int run) {
        int leak = between(-1, 16);
        int capacity = between(10, 210);
        PacedMux x = new PacedMux(leak, capacity);
        PlainModel y = new PlainModel(leak, capacity);
        boolean hurried = below(2) == 0;
        int largest = below(3) == 0 ? 4 : 60;
        int[] due = new int[3];
        for (int step = 0; step < STEPS; step++) {
            String name = "run " + run + ", step " + step;
            int kind = below(16);
            if (kind < 7) {
                addOne(name, x, y, due, hurried, largest);
            } else if (kind < 14) {
                pass(name, x, y);
            } else {
                int n = below(60) == 0 ? orEdge(40) : between(0, 8);
                CHECK.due(name + " tick", x.tick(n), y.tick(n));
            }
            for (int i = 0; i < QUESTIONS; i++) {
                ask(name, x, y);
            }
        }
    }

    private static void addOne(String name, PacedMux x, PlainModel y, int[] due,
            boolean hurried, int largest) {
        int s = below(3);
        int time = y.tick(0);
        int base = Math.max(time, due[s]);
        int when = orEdge(base + between(hurried ? 0 : 3, hurried ? 12 : 90));
        int size = orEdge(between(1, largest));
        int stream = orEdge(s);
        int seed = orEdge(below(256));
        int want = y.add(stream, size, when, seed);
        CHECK.due(name + " add", x.add(stream, size, when, seed), want);
        if (want > 0) {
            due[stream] = when;
        }
    }

    private static void pass(String name, PacedMux x, PlainModel y) {
        int kind = below(40);
        if (kind == 0) {
            x.retune();
            y.retune();
        } else if (kind < 4) {
            int n = orEdge(between(0, 3));
            CHECK.due(name + " lose", x.lose(n), y.lose(n));
        } else if (kind < 12) {
            int i = orEdge(below(2) == 0 ? below(3) : below(16));
            int bits = orEdge(below(2) == 0 ? 1 << below(8) : below(256));
            CHECK.due(name + " spoil", x.spoil(i, bits), y.spoil(i, bits));
        } else {
            CHECK.due(name + " tick", x.tick(1), y.tick(1));
        }
    }

    private static void ask(String name, PacedMux x, PlainModel y) {
        int s = orEdge(below(3));
        switch (below(9)) {
            case 0 -> CHECK.due(name + " waiting", x.waiting(s), y.waiting(s));
            case 1 -> CHECK.due(name + " stored", x.stored(s), y.stored(s));
            case 2 -> CHECK.due(name + " levels", x.levels(s), y.levels(s));
            case 3 -> CHECK.due(name + " late", x.late(s), y.late(s));
            case 4 -> CHECK.due(name + " clock", x.clock(), y.clock());
            case 5 -> {
                int i = orEdge(below(16));
                CHECK.due(name + " packet " + i, x.packet(i), y.packet(i));
            }
            case 6 -> {
                int k = orEdge(below(6));
                CHECK.due(name + " count " + k, x.count(k), y.count(k));
            }
            case 7 -> {
                int what = orEdge(below(3));
                CHECK.due(name + " latest " + what, x.latest(s, what), y.latest(s, what));
            }
            default -> {
                int i = orEdge(below(below(2) == 0 ? 60 : 5));
                CHECK.due(name + " letter " + i, x.letter(s, i), y.letter(s, i));
            }
        }
    }
}
