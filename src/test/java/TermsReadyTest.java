/** Terms, part 2 of a tick: when a stream is READY, and which of several sends. */
public final class TermsReadyTest {
    private static final Check CHECK = new Check();

    public static void main(String[] args) {
        lowOfAStart();
        lowOfALaterPacket();
        lowWithTheBytesThatAreLeft();
        lowWithLessRoomInAClock();
        highOfAStart();
        highOfALaterPacket();
        highWithLessRoomInAClock();
        storedSevenAndEight();
        storedEightWhenOneGoes();
        for (int first = 0; first < 3; first++) {
            dueFirst(first);
        }
        dueFirstByATick();
        leastNumber();
        leastNumberWhateverElse();
        leastNumberOfThoseReady();
        notReadyByLow();
        notReadyByHigh();
        notReadyByStored();
        noneIsReady();
        anotherTakesTheLine();
        CHECK.end();
    }

    /** "LOW + n is at most 28": at t 2 LOW is 18. */
    private static void lowOfAStart() {
        for (int size = 9; size <= 11; size++) {
            PacedMux x = new PacedMux(1, 200);
            x.add(0, 9, 500, 0);
            x.add(0, 11, 501, 0);
            x.add(0, size, 502, 0);
            x.tick(2);
            CHECK.stream("t 1", x, 0, 20, 19, 1, 2);
            x.tick(1);
            boolean ready = size <= 10;
            CHECK.stream("18 + " + size, x, 0, ready ? 20 + size : 20, ready ? 18 + size : 18,
                    ready ? 0 : 1, ready ? 3 : 2);
        }
    }

    /** A unit in three packets: 9, then 14 on 8, then what is left on 21. */
    private static void lowOfALaterPacket() {
        for (int size = 29; size <= 31; size++) {
            PacedMux x = new PacedMux(1, 200);
            x.add(0, size, 500, 0);
            x.tick(2);
            CHECK.stream("t 1", x, 0, 23, 22, 1, 0);
            x.tick(1);
            boolean ready = size <= 30;
            CHECK.stream("21 + " + (size - 23), x, 0, ready ? size : 23, ready ? size - 2 : 21,
                    ready ? 0 : 1, ready ? 1 : 0);
        }
    }

    /** n is what the packet takes, not what it could take: a byte goes at a LOW of 27. */
    private static void lowWithTheBytesThatAreLeft() {
        PacedMux x = new PacedMux(1, 200);
        x.add(0, 9, 500, 0);
        x.add(0, 11, 501, 0);
        x.add(0, 10, 502, 0);
        x.add(0, 1, 503, 0);
        x.tick(3);
        CHECK.stream("full", x, 0, 30, 28, 1, 3);
        x.tick(1);
        CHECK.stream("27 + 1", x, 0, 31, 28, 0, 4);
    }

    /** A start takes 9 bytes in a clock: at t 8 there is room for them, not for 11. */
    private static void lowWithLessRoomInAClock() {
        PacedMux x = new PacedMux(1, 200);
        x.tick(5);
        x.add(0, 11, 500, 0);
        x.add(0, 10, 501, 0);
        x.add(0, 12, 502, 0);
        x.tick(2);
        CHECK.stream("t 6", x, 0, 21, 20, 1, 2);
        x.tick(1);
        CHECK.stream("t 7: 19 + 11", x, 0, 21, 19, 1, 2);
        x.tick(1);
        CHECK.stream("t 8: 18 + 9", x, 0, 30, 27, 1, 2);
        x.tick(1);
        CHECK.stream("t 9: 26 + 3", x, 0, 30, 26, 1, 2);
        x.tick(1);
        CHECK.stream("t 10: 25 + 3", x, 0, 33, 28, 0, 3);
    }

    /** "HIGH + n at most CAPACITY". */
    private static void highOfAStart() {
        for (int capacity = 20; capacity <= 23; capacity++) {
            PacedMux x = new PacedMux(14, capacity);
            x.add(2, 9, 500, 0);
            x.add(2, 3, 501, 0);
            x.add(2, 10, 502, 0);
            x.tick(3);
            boolean ready = capacity >= 22;
            CHECK.stream("12 + 10 of " + capacity, x, 2, ready ? 22 : 12, ready ? 10 : 0,
                    ready ? 0 : 1, ready ? 3 : 2);
        }
    }

    private static void highOfALaterPacket() {
        for (int capacity = 22; capacity <= 24; capacity++) {
            PacedMux x = new PacedMux(14, capacity);
            x.add(2, 23, 500, 0);
            x.tick(2);
            boolean ready = capacity >= 23;
            CHECK.stream("9 + 14 of " + capacity, x, 2, ready ? 23 : 9, ready ? 14 : 0,
                    ready ? 0 : 1, ready ? 1 : 0);
        }
    }

    /** Of 13 bytes that are left 12 have room in a clock: 9 + 11 + 12 = 32. */
    private static void highWithLessRoomInAClock() {
        for (int capacity = 31; capacity <= 33; capacity++) {
            PacedMux x = new PacedMux(14, capacity);
            x.add(2, 9, 500, 0);
            x.tick(7);
            x.add(2, 24, 501, 0);
            x.tick(1);
            CHECK.stream("t 7", x, 2, 20, 11, 1, 1);
            x.tick(1);
            boolean ready = capacity >= 32;
            CHECK.stream("20 + 12 of " + capacity, x, 2, ready ? 32 : 20, ready ? 12 : 0, 1, 1);
        }
    }

    /** "for a start, fewer than 8 of its units are stored". */
    private static void storedSevenAndEight() {
        PacedMux x = new PacedMux(14, 200);
        for (int i = 0; i < 8; i++) {
            x.add(0, 1, 500 + i, 0);
        }
        x.tick(7);
        x.add(0, 20, 508, 0);
        CHECK.stream("seven", x, 0, 7, 1, 2, 7);
        x.tick(1);
        CHECK.stream("eight", x, 0, 8, 1, 1, 8);
        x.tick(30);
        CHECK.stream("the ninth waits", x, 0, 8, 0, 1, 8);
        PacedMux y = new PacedMux(14, 200);
        for (int i = 0; i < 7; i++) {
            y.add(0, 1, 500 + i, 0);
        }
        y.tick(7);
        y.add(0, 60, 507, 0);
        y.tick(8);
        CHECK.stream("the eighth in many packets", y, 0, 67, 0, 0, 8);
    }

    private static void storedEightWhenOneGoes() {
        PacedMux x = new PacedMux(14, 200);
        for (int i = 0; i < 8; i++) {
            x.add(0, 1, 20 + 100 * i, 0);
        }
        x.tick(8);
        x.add(0, 5, 900, 0);
        x.tick(12);
        CHECK.stream("t 19", x, 0, 8, 0, 1, 8);
        x.tick(1);
        CHECK.stream("t 20: one goes, one comes", x, 0, 12, 5, 0, 8);
    }

    /** "the one whose current unit is due first sends", whichever was added first. */
    private static void dueFirst(int first) {
        PacedMux x = new PacedMux(14, 200);
        for (int s = 0; s < 3; s++) {
            x.add(s, 5, s == first ? 499 : 500, 0);
        }
        x.tick(1);
        CHECK.due("due first", x.packet(1), 128 + 64 + 16 * first);
    }

    /** Its current unit counts, not one behind it or one that is stored. */
    private static void dueFirstByATick() {
        PacedMux x = new PacedMux(14, 200);
        x.add(0, 5, 300, 0);
        x.add(0, 5, 303, 0);
        x.add(1, 5, 301, 0);
        x.add(1, 5, 302, 0);
        x.add(2, 5, 304, 0);
        int[] order = {0, 1, 1, 0, 2};
        for (int i = 0; i < order.length; i++) {
            x.tick(1);
            CHECK.due("packet " + i, x.packet(1) / 16 % 4, order[i]);
        }
    }

    /** "of several the one with the least number". */
    private static void leastNumber() {
        int[][] groups = {{0, 1}, {0, 2}, {1, 2}, {0, 1, 2}};
        for (int[] group : groups) {
            PacedMux x = new PacedMux(14, 200);
            for (int i = group.length - 1; i >= 0; i--) {
                x.add(group[i], 5, 500, 0);
            }
            for (int s : group) {
                x.tick(1);
                CHECK.due("of " + group.length, x.packet(1) / 16 % 4, s);
            }
        }
    }

    /** Neither sizes nor how many wait or were sent before make a difference. */
    private static void leastNumberWhateverElse() {
        for (int most = 0; most < 3; most++) {
            PacedMux x = new PacedMux(14, 200);
            x.add(most, 3, 400, 0);
            x.tick(1);
            for (int s = 2; s >= 0; s--) {
                x.add(s, s == most ? 11 : 2, 500, 0);
            }
            x.add(most, 1, 600, 0);
            x.add(most, 1, 601, 0);
            for (int s = 0; s < 3; s++) {
                x.tick(1);
                CHECK.due("most wait at " + most, x.packet(1) / 16 % 4, s);
            }
        }
    }

    private static void leastNumberOfThoseReady() {
        PacedMux x = new PacedMux(1, 200);
        x.add(0, 60, 500, 0);
        x.tick(2);
        x.add(2, 5, 500, 0);
        x.add(1, 5, 500, 0);
        x.tick(1);
        CHECK.due("0 has no room", x.packet(1), 128 + 16);
        x.tick(1);
        CHECK.due("then 2", x.packet(1), 128 + 32);
        x.tick(1);
        CHECK.due("then none", x.packet(1), 48);
    }

    private static void notReadyByLow() {
        PacedMux x = new PacedMux(1, 200);
        x.add(0, 60, 400, 0);
        x.add(1, 5, 500, 0);
        x.tick(2);
        CHECK.due("0 sends while it can", x.packet(1), 1);
        x.tick(1);
        CHECK.due("21 + 14", x.packet(1), 128 + 16);
        CHECK.stream("it waits", x, 0, 23, 21, 1, 0);
    }

    private static void notReadyByHigh() {
        PacedMux x = new PacedMux(14, 20);
        x.add(0, 60, 400, 0);
        x.add(1, 5, 500, 0);
        x.tick(2);
        CHECK.due("9 + 14", x.packet(1), 128 + 16);
        CHECK.stream("it waits", x, 0, 9, 0, 1, 0);
    }

    private static void notReadyByStored() {
        PacedMux x = new PacedMux(14, 200);
        for (int i = 0; i < 8; i++) {
            x.add(0, 1, 400 + i, 0);
        }
        x.tick(8);
        x.add(0, 1, 408, 0);
        x.add(2, 5, 500, 0);
        x.tick(1);
        CHECK.due("eight are stored", x.packet(1), 128 + 64 + 32);
        CHECK.stream("it waits", x, 0, 8, 0, 1, 8);
    }

    /** "the stream number 3, the counter 0, no start and no bytes of a unit". */
    private static void noneIsReady() {
        PacedMux x = new PacedMux(1, 20);
        for (int s = 0; s < 3; s++) {
            x.add(s, 60, 400, s);
        }
        x.tick(3);
        for (int s = 0; s < 3; s++) {
            CHECK.due("9 or 11 of each", x.levels(s) / 32, s == 0 ? 9 : 11);
        }
        for (int t = 3; t <= 24; t++) {
            x.tick(1);
            if (t % 8 == 0) {
                CHECK.packet("t " + t, x, 71, 112, 0, t);
            } else {
                CHECK.packet("t " + t, x, 71, 48);
            }
        }
        CHECK.stream("LOW leaks", x, 0, 9, 0, 1, 0);
        CHECK.stream("nothing was sent", x, 2, 11, 0, 1, 0);
    }

    /** A unit that is due sooner goes between the packets of another, which then goes on. */
    private static void anotherTakesTheLine() {
        PacedMux x = new PacedMux(14, 200);
        x.add(2, 30, 500, 100);
        x.tick(1);
        x.add(0, 12, 499, 1);
        x.tick(2);
        CHECK.due("stream 0 goes on", x.packet(1), 1);
        CHECK.latest("stream 0", x, 0, 12, 499, 1);
        x.tick(2);
        CHECK.due("stream 2 goes on", x.packet(1), 32 + 2);
        CHECK.latest("stream 2", x, 2, 30, 500, 100);
        CHECK.counts("no gap", x, 0, 0, 0, 0, 2, 2);
    }
}
