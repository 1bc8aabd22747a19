/** Terms, UNITS: sizes, seeds, the units waiting, the current one and the stored ones. */
public final class TermsUnitsTest {
    private static final Check CHECK = new Check();

    public static void main(String[] args) {
        for (int s = 0; s < 3; s++) {
            for (int size : Range.inside(1, 60)) {
                sizeAndBytes(s, size, 200);
            }
            for (int seed : Range.inside(0, 255)) {
                sizeAndBytes(s, 60, seed);
            }
        }
        lowestEightBits();
        noneWaiting();
        inTheOrderOfAdding();
        eightWaiting();
        roomAfterOneIsSent();
        roomAfterOneIsLate();
        currentInPart();
        CHECK.end();
    }

    /** "a SIZE of 1 .. 60 bytes, a SEED 0 .. 255". */
    private static void sizeAndBytes(int s, int size, int seed) {
        PacedMux x = new PacedMux(14, 200);
        CHECK.due("add", x.add(s, size, 500, seed), 1);
        x.tick(8);
        CHECK.latest("size " + size + ", seed " + seed, x, s, size, 500, seed);
    }

    /** "the lowest eight bits of SEED + 7 * i": 0 after 255, more than once in a unit. */
    private static void lowestEightBits() {
        PacedMux x = new PacedMux(14, 200);
        x.add(0, 60, 500, 255);
        x.tick(1);
        CHECK.packet("seed 255", x, 71, 192, 0, 0, 60, 1, 244, 255, 6, 13, 20, 27, 34, 41, 48, 55);
        x.tick(7);
        CHECK.due("255 + 7 * 36 = 507", x.letter(0, 36), 251);
        CHECK.due("255 + 7 * 37 = 514", x.letter(0, 37), 2);
        CHECK.due("255 + 7 * 59 = 668", x.letter(0, 59), 156);
        PacedMux y = new PacedMux(14, 200);
        y.add(0, 60, 500, 4);
        y.tick(8);
        CHECK.due("4 + 7 * 35 = 249", y.letter(0, 35), 249);
        CHECK.due("4 + 7 * 36 = 256", y.letter(0, 36), 0);
        CHECK.due("4 + 7 * 37 = 263", y.letter(0, 37), 7);
    }

    private static void noneWaiting() {
        PacedMux x = new PacedMux(14, 200);
        for (int s = 0; s < 3; s++) {
            CHECK.stream("none", x, s, 0, 0, 0, 0);
        }
        x.tick(1);
        CHECK.packet("nothing to send", x, 71, 112, 0, 0);
        for (int s = 0; s < 3; s++) {
            CHECK.stream("none, a tick later", x, s, 0, 0, 0, 0);
            CHECK.due("none was late", x.late(s), 0);
        }
    }

    /** "in the order in which they were added". */
    private static void inTheOrderOfAdding() {
        PacedMux x = new PacedMux(14, 200);
        for (int i = 1; i <= 8; i++) {
            CHECK.due("add", x.add(2, 9 - i, 500 + i, 10 * i), i);
        }
        for (int i = 1; i <= 8; i++) {
            x.tick(1);
            CHECK.latest("unit " + i, x, 2, 9 - i, 500 + i, 10 * i);
            CHECK.due("waiting(2)", x.waiting(2), 8 - i);
            CHECK.due("stored(2)", x.stored(2), i);
        }
    }

    /** "at most 8", of each stream. */
    private static void eightWaiting() {
        PacedMux x = new PacedMux(14, 200);
        for (int s = 0; s < 3; s++) {
            for (int i = 1; i <= 8; i++) {
                CHECK.due("add", x.add(s, 60, 500 + i, 0), i);
            }
            CHECK.due("a ninth", x.add(s, 60, 509, 0), PacedMux.FULL);
            CHECK.due("a tenth", x.add(s, 60, 510, 0), PacedMux.FULL);
            CHECK.due("waiting", x.waiting(s), 8);
        }
    }

    private static void roomAfterOneIsSent() {
        PacedMux x = new PacedMux(14, 200);
        for (int i = 1; i <= 8; i++) {
            x.add(1, 10, 500 + i, 0);
        }
        x.tick(1);
        CHECK.due("sent in part", x.add(1, 60, 509, 0), PacedMux.FULL);
        x.tick(1);
        CHECK.due("sent wholly", x.add(1, 60, 509, 0), 8);
        CHECK.due("again eight", x.add(1, 60, 510, 0), PacedMux.FULL);
    }

    private static void roomAfterOneIsLate() {
        PacedMux x = new PacedMux(14, 200);
        for (int i = 0; i < 8; i++) {
            x.add(1, 60, 2 + 100 * i, 0);
        }
        x.tick(2);
        CHECK.due("due at 2, which is not yet", x.add(1, 60, 900, 0), PacedMux.FULL);
        x.tick(1);
        CHECK.due("late", x.late(1), 1);
        CHECK.due("late, it waits no more", x.add(1, 60, 900, 0), 8);
    }

    /** "of which some bytes may have been sent": it waits until the last one is. */
    private static void currentInPart() {
        PacedMux x = new PacedMux(14, 200);
        x.add(0, 24, 500, 0);
        x.tick(1);
        CHECK.stream("9 of 24", x, 0, 9, 9, 1, 0);
        x.tick(1);
        CHECK.stream("23 of 24", x, 0, 23, 14, 1, 0);
        x.tick(1);
        CHECK.stream("24 of 24", x, 0, 24, 1, 0, 1);
    }
}
