/** Terms, the receiver's d: starts, broken units and strange sizes. */
public final class TermsReceiverDTest {
    private static final Check CHECK = new Check();

    public static void main(String[] args) {
        for (int size = 0; size <= 255; size++) {
            sizeInAClock(size);
            sizeWithoutAClock(size);
        }
        for (int due : new int[] {0, 1, 255, 256, 257, 32767, 32768, 65279, 65280, 65535}) {
            dueAsItSays(due);
        }
        startBreaks();
        startWithNothingCollected();
        strangeBreaks();
        strangeWithAGap();
        strangeIsNothingMore();
        strangeCounter();
        startOfAnotherStream();
        CHECK.end();
    }

    /** "when the size that it says is not 1 .. 60, it is STRANGE"; the packet holds 9 bytes. */
    private static void sizeInAClock(int size) {
        PacedMux x = new PacedMux(14, 200);
        x.add(0, 1, 500, 0);
        x.spoil(4, 1 ^ size);
        sizeIs(x, size, 9);
    }

    /** Without a clock the packet holds 11 bytes. */
    private static void sizeWithoutAClock(int size) {
        PacedMux x = new PacedMux(14, 200);
        x.tick(1);
        x.add(0, 60, 500, 0);
        x.spoil(2, 60 ^ size);
        sizeIs(x, size, 11);
    }

    private static void sizeIs(PacedMux x, int size, int room) {
        boolean strange = size == 0 || size > 60;
        boolean whole = !strange && size <= room;
        String when = "size " + size;
        CHECK.counts(when, x, 0, 0, 0, strange ? 1 : 0, whole ? 1 : 0, whole ? 1 : 0);
        CHECK.due(when, x.latest(0, 0), whole ? size : PacedMux.BAD);
    }

    /** "a unit is collected with that size and time due": 0 .. 65535 as two bytes say. */
    private static void dueAsItSays(int due) {
        PacedMux x = new PacedMux(14, 200);
        int low = due % 256;
        int sent = low == 0 ? 256 : low;
        x.add(2, 4, sent, 11);
        x.spoil(5, sent / 256 ^ due / 256);
        CHECK.latest("due " + due, x, 2, 4, due, 11);
        CHECK.due("clock()", x.clock(), 0);
        CHECK.due("timely, due " + due, x.count(5), due >= 1 && due <= 32767 ? 1 : 0);
    }

    /** "the unit that is collected, if any, is broken": without a gap, when a unit is late. */
    private static void startBreaks() {
        PacedMux x = new PacedMux(14, 200);
        x.add(0, 60, 2, 0);
        x.add(0, 5, 500, 8);
        x.tick(2);
        CHECK.counts("it is collected", x, 0, 0, 0, 0, 0, 0);
        x.tick(1);
        CHECK.counts("broken by the next start", x, 0, 0, 1, 0, 1, 1);
        CHECK.latest("the next", x, 0, 5, 500, 8);
    }

    private static void startWithNothingCollected() {
        PacedMux x = new PacedMux(14, 200);
        for (int i = 0; i < 3; i++) {
            x.add(0, 9, 500 + i, 0);
        }
        x.tick(3);
        CHECK.counts("whole ones are not broken", x, 0, 0, 0, 0, 3, 3);
    }

    /** A strange start breaks the unit that is collected. */
    private static void strangeBreaks() {
        for (int size : new int[] {0, 61, 255}) {
            PacedMux x = new PacedMux(14, 200);
            x.add(0, 60, 2, 0);
            x.add(0, 60, 500, 0);
            x.tick(2);
            x.spoil(2, 60 ^ size);
            CHECK.counts("broken, and strange", x, 0, 0, 1, 1, 0, 0);
            x.tick(4);
            CHECK.counts("nothing is collected", x, 0, 0, 1, 1, 0, 0);
        }
    }

    private static void strangeWithAGap() {
        PacedMux x = new PacedMux(14, 200);
        x.add(0, 20, 500, 0);
        x.add(0, 60, 501, 0);
        x.tick(1);
        x.lose(1);
        x.spoil(2, 60);
        CHECK.counts("a gap, broken once, strange", x, 0, 1, 1, 1, 0, 0);
    }

    /** "and nothing more happens": the latest unit stands, what follows goes nowhere. */
    private static void strangeIsNothingMore() {
        PacedMux x = new PacedMux(14, 200);
        x.add(0, 5, 499, 33);
        x.add(0, 14, 500, 0);
        x.add(0, 6, 501, 44);
        x.tick(1);
        x.spoil(2, 14 ^ 61);
        x.tick(1);
        CHECK.counts("strange", x, 0, 0, 0, 1, 1, 1);
        CHECK.latest("the one before", x, 0, 5, 499, 33);
        x.tick(1);
        CHECK.counts("the next is as any", x, 0, 0, 0, 1, 2, 2);
        CHECK.latest("the next", x, 0, 6, 501, 44);
    }

    /** The counter of a strange start is the latest one all the same. */
    private static void strangeCounter() {
        PacedMux x = new PacedMux(14, 200);
        x.add(0, 5, 499, 33);
        x.add(0, 5, 500, 0);
        x.spoil(4, 5);
        x.tick(1);
        CHECK.counts("1 after 0", x, 0, 0, 0, 1, 1, 1);
        PacedMux y = new PacedMux(14, 200);
        for (int i = 0; i < 3; i++) {
            y.add(0, 5, 499 + i, 33);
        }
        y.spoil(4, 5);
        y.lose(1);
        y.tick(1);
        CHECK.counts("2 after 0", y, 0, 1, 0, 1, 1, 1);
    }

    /** A start breaks its own stream's unit alone. */
    private static void startOfAnotherStream() {
        PacedMux x = new PacedMux(14, 200);
        x.add(0, 20, 500, 5);
        x.tick(1);
        x.add(1, 20, 499, 6);
        x.tick(1);
        x.add(2, 20, 498, 7);
        x.tick(1);
        CHECK.counts("three are collected", x, 0, 0, 0, 0, 0, 0);
        x.tick(3);
        CHECK.counts("three arrive", x, 0, 0, 0, 0, 3, 3);
        for (int s = 0; s < 3; s++) {
            CHECK.latest("stream " + s, x, s, 20, 500 - s, 5 + s);
        }
    }
}
