/** Terms, part 1 of a tick: LOW falls, stored units go, current units are late. */
public final class TermsTickPart1Test {
    private static final Check CHECK = new Check();

    public static void main(String[] args) {
        for (int leak = 1; leak <= 14; leak++) {
            for (int low = 1; low <= 11; low++) {
                lowFalls(leak, low);
            }
        }
        lowFallsInEveryStream();
        storedGoesWhenDue();
        storedGoOneByOne();
        storedOfAllStreamsGoAtOnce();
        storedAtTheLastMoment();
        lateWithNoneSent();
        lateWithSomeSent();
        lateWithAllButOneSent();
        lateOfAllStreamsAtOnce();
        lateTickAfterTick();
        lateBehindAStoredOne();
        lateByASmallCapacity();
        roomOfTheSameTick();
        CHECK.end();
    }

    /** "LOW falls by LEAK, but not below 0". */
    private static void lowFalls(int leak, int low) {
        PacedMux x = new PacedMux(leak, 200);
        x.tick(1);
        x.add(0, low, 900, 0);
        x.tick(1);
        int want = low;
        CHECK.due("LEAK " + leak + ", sent", x.levels(0), low * 32 + want);
        for (int i = 0; i < 3; i++) {
            x.tick(1);
            want = want < leak ? 0 : want - leak;
            CHECK.due("LEAK " + leak + ", from " + low, x.levels(0), low * 32 + want);
        }
    }

    private static void lowFallsInEveryStream() {
        PacedMux x = new PacedMux(2, 200);
        for (int s = 0; s < 3; s++) {
            x.add(s, 9, 900 + s, 0);
        }
        x.tick(3);
        CHECK.due("levels(0)", x.levels(0), 9 * 32 + 5);
        CHECK.due("levels(1)", x.levels(1), 9 * 32 + 7);
        CHECK.due("levels(2)", x.levels(2), 9 * 32 + 9);
        x.lose(1);
        CHECK.due("levels(0)", x.levels(0), 9 * 32 + 3);
        CHECK.due("levels(1)", x.levels(1), 9 * 32 + 5);
        CHECK.due("levels(2)", x.levels(2), 9 * 32 + 7);
        x.spoil(0, 1);
        CHECK.due("levels(0)", x.levels(0), 9 * 32 + 1);
        CHECK.due("levels(1)", x.levels(1), 9 * 32 + 3);
        CHECK.due("levels(2)", x.levels(2), 9 * 32 + 5);
    }

    /** "A stored unit that is due at t goes": not at t - 1. */
    private static void storedGoesWhenDue() {
        PacedMux x = new PacedMux(14, 200);
        x.add(0, 7, 5, 0);
        x.add(0, 4, 900, 0);
        x.tick(4);
        CHECK.stream("t 3 was", x, 0, 11, 0, 0, 2);
        x.tick(1);
        CHECK.stream("t 4 was", x, 0, 11, 0, 0, 2);
        x.tick(1);
        CHECK.stream("t 5 was", x, 0, 4, 0, 0, 1);
        CHECK.due("it was not late", x.late(0), 0);
    }

    private static void storedGoOneByOne() {
        PacedMux x = new PacedMux(14, 200);
        for (int i = 0; i < 8; i++) {
            x.add(0, i + 1, 20 + i, 0);
        }
        x.tick(20);
        int high = 36;
        CHECK.stream("all eight", x, 0, high, 0, 0, 8);
        for (int i = 0; i < 8; i++) {
            x.tick(1);
            high -= i + 1;
            CHECK.stream("t " + (20 + i), x, 0, high, 0, 0, 7 - i);
        }
        x.tick(1);
        CHECK.stream("none is left to go", x, 0, 0, 0, 0, 0);
    }

    private static void storedOfAllStreamsGoAtOnce() {
        PacedMux x = new PacedMux(14, 200);
        for (int s = 0; s < 3; s++) {
            x.add(s, 3 + s, 5, 0);
            x.add(s, 1, 900, 0);
        }
        x.tick(5);
        for (int s = 0; s < 3; s++) {
            CHECK.due("before", x.stored(s), s == 2 ? 1 : 2);
        }
        x.tick(1);
        CHECK.stream("t 5", x, 0, 1, 0, 0, 1);
        CHECK.stream("t 5", x, 1, 1, 0, 0, 1);
        CHECK.stream("t 5, which sends its last", x, 2, 1, 1, 0, 1);
    }

    /** A unit due at t that is sent wholly at t - 1 is stored, and goes in time. */
    private static void storedAtTheLastMoment() {
        PacedMux x = new PacedMux(14, 200);
        x.add(0, 9, 1, 0);
        x.tick(1);
        CHECK.stream("t 0", x, 0, 9, 9, 0, 1);
        x.tick(1);
        CHECK.stream("t 1", x, 0, 0, 0, 0, 0);
        CHECK.due("it was not late", x.late(0), 0);
        CHECK.counts("and is timely", x, 0, 0, 0, 0, 1, 1);
    }

    /** The current unit is late when it is due, not before, and is not sent then. */
    private static void lateWithNoneSent() {
        PacedMux x = new PacedMux(14, 200);
        x.add(0, 60, 1, 0);
        x.add(1, 5, 1, 0);
        x.tick(1);
        CHECK.due("t 0", x.late(1), 0);
        CHECK.stream("t 0", x, 1, 0, 0, 1, 0);
        x.tick(1);
        CHECK.due("t 1", x.late(1), 1);
        CHECK.stream("t 1", x, 1, 0, 0, 0, 0);
        CHECK.packet("nothing is left to send", x, 71, 48);
    }

    /** "HIGH falls by the number of its bytes that were sent"; the next begins at byte 0. */
    private static void lateWithSomeSent() {
        PacedMux x = new PacedMux(3, 200);
        x.add(0, 4, 900, 0);
        x.tick(1);
        x.add(1, 60, 3, 0);
        x.add(1, 6, 901, 50);
        x.tick(2);
        CHECK.stream("11, 8 + 14", x, 1, 25, 22, 2, 0);
        x.tick(1);
        CHECK.packet("t 3", x, 71, 128 + 16 + 2, 6, 3, 133, 50, 57, 64, 71, 78, 85);
        CHECK.stream("t 3: LOW only leaks", x, 1, 6, 19 + 6, 0, 1);
        CHECK.due("late(1)", x.late(1), 1);
        CHECK.due("late(0)", x.late(0), 0);
        CHECK.stream("the other is as it was", x, 0, 4, 0, 0, 1);
    }

    private static void lateWithAllButOneSent() {
        PacedMux x = new PacedMux(14, 200);
        x.add(0, 24, 2, 0);
        x.tick(2);
        CHECK.stream("23 of 24", x, 0, 23, 14, 1, 0);
        x.tick(1);
        CHECK.stream("late", x, 0, 0, 0, 0, 0);
        CHECK.due("late(0)", x.late(0), 1);
        PacedMux y = new PacedMux(14, 200);
        y.add(0, 23, 2, 0);
        y.tick(2);
        CHECK.stream("23 of 23", y, 0, 23, 14, 0, 1);
        y.tick(1);
        CHECK.stream("goes", y, 0, 0, 0, 0, 0);
        CHECK.due("late(0)", y.late(0), 0);
    }

    private static void lateOfAllStreamsAtOnce() {
        PacedMux x = new PacedMux(14, 200);
        for (int s = 0; s < 3; s++) {
            x.add(s, 60, 3, 0);
            x.add(s, 60, 900 - s, 0);
        }
        x.tick(3);
        for (int s = 0; s < 3; s++) {
            CHECK.due("t 2", x.late(s), 0);
        }
        x.tick(1);
        for (int s = 0; s < 3; s++) {
            CHECK.due("t 3", x.late(s), 1);
            CHECK.due("t 3", x.waiting(s), 1);
        }
        CHECK.due("the one due first starts", x.packet(1), 128 + 32);
    }

    /** The next one that becomes current at t is due later than t, if only by a tick. */
    private static void lateTickAfterTick() {
        PacedMux x = new PacedMux(14, 200);
        for (int i = 0; i < 8; i++) {
            x.add(0, 60, i + 1, 0);
        }
        for (int i = 0; i <= 8; i++) {
            x.tick(1);
            CHECK.due("late(0) after t " + i, x.late(0), i);
            CHECK.due("waiting(0)", x.waiting(0), 8 - i);
        }
        CHECK.due("levels(0)", x.levels(0), 0);
        x.tick(1);
        CHECK.due("no more", x.late(0), 8);
        x.add(0, 60, 11, 0);
        x.tick(2);
        CHECK.due("a ninth", x.late(0), 9);
    }

    private static void lateBehindAStoredOne() {
        PacedMux x = new PacedMux(14, 200);
        x.add(0, 9, 3, 0);
        x.add(0, 60, 4, 0);
        x.tick(3);
        CHECK.stream("9 stored, 11 + 14 of the current", x, 0, 34, 14, 1, 1);
        x.tick(1);
        CHECK.stream("the stored one goes, 14 more", x, 0, 39, 14, 1, 0);
        x.tick(1);
        CHECK.stream("the current one is late", x, 0, 0, 0, 0, 0);
        CHECK.due("late(0)", x.late(0), 1);
    }

    /** A unit larger than CAPACITY can't be sent wholly and is late in the end. */
    private static void lateByASmallCapacity() {
        PacedMux x = new PacedMux(14, 20);
        x.add(0, 60, 30, 0);
        x.tick(30);
        CHECK.stream("9 + 14 is over 20", x, 0, 9, 0, 1, 0);
        x.tick(1);
        CHECK.stream("late", x, 0, 0, 0, 0, 0);
        CHECK.due("late(0)", x.late(0), 1);
    }

    /** What falls in part 1 is room in part 2 of the same tick. */
    private static void roomOfTheSameTick() {
        PacedMux x = new PacedMux(14, 20);
        x.add(0, 9, 4, 0);
        x.add(0, 11, 900, 0);
        x.add(0, 9, 901, 0);
        x.tick(4);
        CHECK.stream("t 3: HIGH is full", x, 0, 20, 0, 1, 2);
        x.tick(1);
        CHECK.stream("t 4: 9 go and 9 are sent", x, 0, 20, 9, 0, 2);
        PacedMux y = new PacedMux(1, 200);
        y.add(0, 9, 900, 0);
        y.add(0, 20, 901, 0);
        y.tick(2);
        CHECK.stream("t 1: LOW is 8 + 11", y, 0, 20, 19, 1, 1);
        y.tick(1);
        CHECK.stream("t 2: 18 + 9", y, 0, 29, 27, 0, 2);
    }
}
