/** Promise 1: LEAK is kept in 1 .. 14, CAPACITY in 20 .. 200; all else is at its beginning. */
public final class Promise01NewObjectTest {
    private static final Check CHECK = new Check();

    public static void main(String[] args) {
        firstState();
        for (int leak : new int[] {Integer.MIN_VALUE, -1, 0, 1}) {
            leakIs(leak, 1);
        }
        for (int leak = 2; leak <= 14; leak++) {
            leakIs(leak, leak);
        }
        for (int leak : new int[] {15, 16, 1000, Integer.MAX_VALUE}) {
            leakIs(leak, 14);
        }
        for (int capacity : new int[] {Integer.MIN_VALUE, -1, 0, 19, 20}) {
            smallCapacity(capacity, 20);
        }
        smallCapacity(21, 21);
        for (int capacity : new int[] {200, 201, Integer.MAX_VALUE}) {
            largeCapacity(capacity, 200);
        }
        largeCapacity(199, 199);
        CHECK.end();
    }

    private static void firstState() {
        PacedMux x = new PacedMux(7, 100);
        CHECK.due("clock()", x.clock(), PacedMux.BAD);
        CHECK.due("packet(0)", x.packet(0), PacedMux.BAD);
        CHECK.counts("new", x, 0, 0, 0, 0, 0, 0);
        for (int s = 0; s < 3; s++) {
            CHECK.due("waiting", x.waiting(s), 0);
            CHECK.due("stored", x.stored(s), 0);
            CHECK.due("levels", x.levels(s), 0);
            CHECK.due("late", x.late(s), 0);
            CHECK.due("latest", x.latest(s, 2), PacedMux.BAD);
            CHECK.due("letter", x.letter(s, 0), PacedMux.BAD);
        }
        CHECK.due("tick(0)", x.tick(0), 0);
    }

    private static void leakIs(int leak, int want) {
        PacedMux x = new PacedMux(leak, 200);
        x.add(0, 23, 900, 0);
        x.tick(1);
        CHECK.due("leak " + leak + ": levels after 9 bytes", x.levels(0), 9 * 32 + 9);
        x.tick(1);
        int low = Math.max(0, 9 - want) + 14;
        CHECK.due("leak " + leak + ": levels after 23", x.levels(0), 23 * 32 + low);
        x.tick(1);
        low = Math.max(0, low - want);
        CHECK.due("leak " + leak + ": levels a tick later", x.levels(0), 23 * 32 + low);
        x.tick(1);
        low = Math.max(0, low - want);
        CHECK.due("leak " + leak + ": levels two ticks later", x.levels(0), 23 * 32 + low);
    }

    private static void smallCapacity(int capacity, int want) {
        PacedMux x = new PacedMux(14, capacity);
        x.add(1, 9, 900, 0);
        x.add(1, 11, 901, 0);
        x.add(1, 1, 902, 0);
        x.add(1, 1, 903, 0);
        x.tick(8);
        CHECK.due("capacity " + capacity + ": levels", x.levels(1), want * 32);
        CHECK.due("capacity " + capacity + ": waiting", x.waiting(1), 22 - want);
    }

    private static void largeCapacity(int capacity, int want) {
        PacedMux x = new PacedMux(14, capacity);
        x.add(2, 60, 900, 0);
        x.add(2, 60, 901, 0);
        x.add(2, 60, 902, 0);
        x.add(2, 11, 903, 0);
        for (int i = 0; i < 4; i++) {
            x.add(2, 1, 904 + i, 0);
        }
        x.tick(40);
        CHECK.due("capacity " + capacity + ": eight are stored", x.stored(2), 8);
        CHECK.due("capacity " + capacity + ": levels", x.levels(2), 195 * 32);
        PacedMux y = new PacedMux(14, capacity);
        y.add(2, 60, 900, 0);
        y.add(2, 60, 901, 0);
        y.add(2, 60, 902, 0);
        y.add(2, 11, 903, 0);
        y.add(2, 8, 904, 0);
        y.add(2, 1, 905, 0);
        y.add(2, 1, 906, 0);
        y.tick(40);
        CHECK.due("capacity " + capacity + ": stored", y.stored(2), want - 194);
        CHECK.due("capacity " + capacity + ": full", y.levels(2), want * 32);
    }
}
