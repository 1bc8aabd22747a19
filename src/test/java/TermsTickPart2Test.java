/** Terms, part 2 of a tick: which stream sends, and what the packet holds. */
public final class TermsTickPart2Test {
    private static final Check CHECK = new Check();

    public static void main(String[] args) {
        for (int s = 0; s < 3; s++) {
            secondByte(s);
            counterGoesRound(s);
        }
        clockEveryEighth();
        clockBytes();
        clockBytesFarOn();
        for (int due : new int[] {1, 2, 254, 255, 256, 257, 511, 512, 513, 999, 1000}) {
            startBytes(due);
        }
        startBytesFarOn();
        roomOfAStartWithClock();
        roomOfAStart();
        roomOfAClock();
        roomOfThePlainOne();
        oneUnitAPacket();
        counterOfWhatWasNotSeen();
        CHECK.end();
    }

    /** "128 if it is a START, plus 64 if it is a CLOCK, plus 16 * stream, plus a COUNTER". */
    private static void secondByte(int s) {
        PacedMux x = new PacedMux(14, 200);
        x.add(s, 10, 500, 0);
        x.tick(1);
        CHECK.due("a start and a clock", x.packet(1), 128 + 64 + 16 * s);
        x.tick(1);
        CHECK.due("neither", x.packet(1), 16 * s + 1);
        x.tick(5);
        x.add(s, 12, 501, 0);
        x.tick(1);
        CHECK.due("a start", x.packet(1), 128 + 16 * s + 2);
        x.tick(1);
        CHECK.due("a clock", x.packet(1), 64 + 16 * s + 3);
        x.tick(1);
        CHECK.packet("nobody's", x, 71, 48);
        x.tick(7);
        CHECK.packet("nobody's, a clock", x, 71, 64 + 48, 0, 16);
    }

    /** "0 in its first packet and 1 more in each next one, 0 after 15"; nobody's don't count. */
    private static void counterGoesRound(int s) {
        PacedMux x = new PacedMux(14, 200);
        for (int i = 0; i < 35; i++) {
            x.add(s, 1, x.tick(0) + 1, 0);
            x.tick(1);
            CHECK.due("packet " + i + " of " + s, x.packet(1) % 64, 16 * s + i % 16);
            x.tick(i % 3);
        }
        x.add((s + 1) % 3, 1, 500, 0);
        x.tick(1);
        CHECK.due("the first of another", x.packet(1) % 64, 16 * ((s + 1) % 3));
    }

    /** "It is a clock when t % 8 is 0". */
    private static void clockEveryEighth() {
        PacedMux x = new PacedMux(14, 200);
        for (int t = 0; t <= 40; t++) {
            x.tick(1);
            boolean clock = t == 0 || t == 8 || t == 16 || t == 24 || t == 32 || t == 40;
            CHECK.due("byte 1 at t " + t, x.packet(1), clock ? 112 : 48);
            CHECK.due("byte 2 at t " + t, x.packet(2), clock ? 0 : 255);
            CHECK.due("byte 3 at t " + t, x.packet(3), clock ? t : 255);
        }
    }

    /** "t / 256 % 256 and t % 256", around the multiples of 256. */
    private static void clockBytes() {
        PacedMux x = new PacedMux(14, 200);
        x.lose(40);
        for (int i = 0; i < 5; i++) {
            x.lose(40);
        }
        x.lose(9);
        CHECK.packet("t 248", x, 71, 112, 0, 248);
        x.lose(7);
        CHECK.packet("t 255", x, 71, 48);
        x.lose(1);
        CHECK.packet("t 256", x, 71, 112, 1, 0);
        x.lose(8);
        CHECK.packet("t 264", x, 71, 112, 1, 8);
        for (int i = 0; i < 6; i++) {
            x.lose(40);
        }
        CHECK.packet("t 504", x, 71, 112, 1, 248);
        x.lose(8);
        CHECK.packet("t 512", x, 71, 112, 2, 0);
    }

    /** The farthest that 512 calls can go is a time of 20480. */
    private static void clockBytesFarOn() {
        PacedMux x = new PacedMux(14, 200);
        for (int i = 0; i < 480; i++) {
            x.lose(40);
        }
        CHECK.due("TIME", x.tick(1), 19201);
        CHECK.packet("t 19200", x, 71, 112, 75, 0);
        CHECK.due("clock()", x.clock(), 19200);
    }

    /** "the size of the unit, its time due / 256 % 256, and that % 256". */
    private static void startBytes(int due) {
        for (int size : new int[] {1, 2, 59, 60}) {
            PacedMux x = new PacedMux(14, 200);
            x.add(0, size, due, 0);
            x.tick(1);
            CHECK.due("byte 4, size " + size, x.packet(4), size);
            CHECK.due("byte 5, due " + due, x.packet(5), due / 256);
            CHECK.due("byte 6, due " + due, x.packet(6), due % 256);
        }
    }

    private static void startBytesFarOn() {
        PacedMux x = new PacedMux(14, 200);
        for (int i = 0; i < 480; i++) {
            x.lose(40);
        }
        CHECK.due("add", x.add(0, 3, 20200, 9), 1);
        x.tick(1);
        CHECK.packet("t 19200", x, 71, 192, 75, 0, 3, 78, 232, 9, 16, 23);
        CHECK.due("latest(0, 1)", x.latest(0, 1), 20200);
        CHECK.due("timely", x.count(5), 1);
    }

    /** 16 - 2 - 2 - 3 = 9 bytes have room. */
    private static void roomOfAStartWithClock() {
        for (int size = 8; size <= 10; size++) {
            PacedMux x = new PacedMux(14, 200);
            x.add(1, size, 500, 10);
            x.tick(1);
            sent("start and clock", x, size, Math.min(size, 9), 7, 0);
        }
    }

    /** 16 - 2 - 3 = 11 bytes. */
    private static void roomOfAStart() {
        for (int size = 10; size <= 12; size++) {
            PacedMux x = new PacedMux(14, 200);
            x.tick(1);
            x.add(1, size, 500, 10);
            x.tick(1);
            sent("start", x, size, Math.min(size, 11), 5, 0);
        }
    }

    /** 16 - 2 - 2 = 12 bytes, behind the 11 that went at t 7. */
    private static void roomOfAClock() {
        for (int size = 12; size <= 24; size++) {
            PacedMux x = new PacedMux(14, 200);
            x.tick(7);
            x.add(1, size, 500, 10);
            x.tick(2);
            sent("clock", x, size, Math.min(size - 11, 12), 4, 11);
        }
    }

    /** 16 - 2 = 14 bytes, behind the 9 that went at t 0. */
    private static void roomOfThePlainOne() {
        for (int size = 10; size <= 24; size++) {
            PacedMux x = new PacedMux(14, 200);
            x.add(1, size, 500, 10);
            x.tick(2);
            sent("neither", x, size, Math.min(size - 9, 14), 2, 9);
        }
    }

    /** The latest packet took n bytes from place at on, behind the bytes that went before it. */
    private static void sent(String kind, PacedMux x, int size, int n, int at, int before) {
        boolean whole = before + n == size;
        String when = kind + ", size " + size;
        CHECK.stream(when, x, 1, before + n, n, whole ? 0 : 1, whole ? 1 : 0);
        for (int i = at; i < 16; i++) {
            int want = i < at + n ? (10 + 7 * (before + i - at)) % 256 : 255;
            CHECK.due(when + ": packet(" + i + ")", x.packet(i), want);
        }
        CHECK.due(when + ": arrived", x.count(4), whole ? 1 : 0);
    }

    /** What is left of a packet behind a unit's last byte is 255, though another unit waits. */
    private static void oneUnitAPacket() {
        PacedMux x = new PacedMux(14, 200);
        x.add(0, 1, 500, 3);
        x.add(0, 1, 501, 4);
        x.add(1, 1, 502, 5);
        x.tick(1);
        CHECK.packet("t 0", x, 71, 192, 0, 0, 1, 1, 244, 3);
        x.tick(1);
        CHECK.packet("t 1", x, 71, 129, 1, 1, 245, 4);
        x.tick(1);
        CHECK.packet("t 2", x, 71, 144, 1, 1, 246, 5);
        x.tick(1);
        CHECK.packet("t 3", x, 71, 48);
    }

    /** Lost and spoilt packets count as any other, late units don't begin a new count. */
    private static void counterOfWhatWasNotSeen() {
        PacedMux x = new PacedMux(14, 200);
        x.add(0, 60, 3, 0);
        x.add(0, 5, 500, 0);
        x.add(0, 5, 501, 0);
        x.lose(1);
        x.spoil(0, 1);
        x.spoil(1, 15);
        CHECK.due("the third", x.packet(1), 2);
        x.retune();
        x.tick(1);
        CHECK.due("late(0)", x.late(0), 1);
        CHECK.due("the fourth", x.packet(1), 128 + 3);
        x.tick(1);
        CHECK.due("the fifth", x.packet(1), 128 + 4);
    }
}
