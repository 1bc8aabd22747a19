/** Promise 5: spoil, and what the receiver makes of damage. */
public final class Promise05SpoilTest {
    private static final Check CHECK = new Check();

    public static void main(String[] args) {
        ranges();
        insideRanges();
        firstByte();
        streamNumber();
        startFlagOff();
        startFlagOn();
        clockFlagOn();
        counter();
        size();
        letters();
        CHECK.end();
    }

    private static void ranges() {
        PacedMux x = new PacedMux(7, 100);
        for (int bad : new int[] {-1, 16, Integer.MIN_VALUE, Integer.MAX_VALUE}) {
            CHECK.due("spoil(" + bad + ", 1)", x.spoil(bad, 1), PacedMux.BAD);
        }
        for (int bad : new int[] {-1, 256, Integer.MIN_VALUE, Integer.MAX_VALUE}) {
            CHECK.due("spoil(5, " + bad + ")", x.spoil(5, bad), PacedMux.BAD);
        }
        CHECK.due("no time went by", x.tick(0), 0);
        CHECK.due("spoil(15, 255)", x.spoil(15, 255), 1);
        CHECK.packet("as it was sent", x, 71, 112, 0, 0);
        CHECK.due("clock()", x.clock(), 0);
        CHECK.due("spoil(0, 0)", x.spoil(0, 0), 2);
        CHECK.due("bits 0 are no damage", x.clock(), 1);
        CHECK.due("nothing ignored", x.count(0), 0);
    }

    private static void insideRanges() {
        PacedMux x = new PacedMux(7, 100);
        int time = 0;
        for (int i : Range.inside(0, 15)) {
            for (int bits : Range.inside(0, 255)) {
                time++;
                CHECK.due("spoil(" + i + ", " + bits + ")", x.spoil(i, bits), time);
            }
            for (int bits : Range.outside(0, 255)) {
                CHECK.due("spoil(" + i + ", " + bits + ")", x.spoil(i, bits), PacedMux.BAD);
            }
        }
        for (int i : Range.outside(0, 15)) {
            for (int bits : Range.inside(0, 255)) {
                CHECK.due("spoil(" + i + ", " + bits + ")", x.spoil(i, bits), PacedMux.BAD);
            }
        }
        CHECK.due("no time went by", x.tick(0), time);
    }

    private static void firstByte() {
        PacedMux x = new PacedMux(14, 200);
        x.add(0, 30, 90, 0);
        x.spoil(0, 1);
        CHECK.due("not known yet", x.clock(), PacedMux.BAD);
        CHECK.counts("ignored", x, 1, 0, 0, 0, 0, 0);
        x.tick(3);
        CHECK.counts("its counter did not count", x, 1, 0, 0, 0, 0, 0);
        x.tick(5);
        CHECK.due("clock()", x.clock(), 8);
        x.spoil(0, 255);
        CHECK.due("it grows", x.clock(), 9);
        CHECK.due("ignored", x.count(0), 2);
    }

    /** To the receiver the packet is stream 2's, or nobody's. */
    private static void streamNumber() {
        PacedMux x = new PacedMux(14, 200);
        x.add(0, 5, 90, 1);
        x.add(0, 5, 91, 2);
        x.spoil(1, 32);
        CHECK.due("latest(2, 1)", x.latest(2, 1), 90);
        CHECK.due("latest(0, 1)", x.latest(0, 1), PacedMux.BAD);
        x.spoil(1, 48);
        CHECK.counts("number 3 is nothing", x, 0, 0, 0, 0, 1, 1);
        CHECK.due("but for the clock", x.clock(), 1);
    }

    private static void startFlagOff() {
        PacedMux x = new PacedMux(14, 200);
        x.add(0, 5, 90, 1);
        x.spoil(1, 128);
        CHECK.counts("nothing is collected", x, 0, 0, 0, 0, 0, 0);
        x.add(0, 60, 91, 1);
        x.tick(1);
        x.add(1, 5, 50, 1);
        x.spoil(1, 128 + 16 + 2);
        CHECK.counts("it reads as the counter 2 of stream 0", x, 0, 0, 0, 0, 0, 0);
        x.tick(1);
        CHECK.counts("which comes again", x, 0, 1, 1, 0, 0, 0);
    }

    /** Bytes of the unit read as a start: its byte 9 as the size, then the time due. */
    private static void startFlagOn() {
        PacedMux x = new PacedMux(14, 200);
        x.add(0, 30, 90, 256 - 63 + 2);
        x.tick(1);
        x.spoil(1, 128);
        CHECK.counts("the first is broken, 2 bytes arrive", x, 0, 0, 1, 0, 1, 1);
        CHECK.due("latest(0, 0)", x.latest(0, 0), 2);
        CHECK.due("latest(0, 1)", x.latest(0, 1), 9 * 256 + 16);
        CHECK.due("letter(0, 0)", x.letter(0, 0), 23);
        CHECK.due("letter(0, 1)", x.letter(0, 1), 30);
        CHECK.due("letter(0, 2)", x.letter(0, 2), PacedMux.BAD);
    }

    /** The size and a byte of the time due read as a clock; the unit begins two bytes on. */
    private static void clockFlagOn() {
        PacedMux x = new PacedMux(14, 200);
        x.tick(1);
        x.add(0, 3, 258, 20);
        x.spoil(1, 64);
        CHECK.packet("as it was sent", x, 71, 128, 3, 1, 2, 20, 27, 34);
        CHECK.due("clock()", x.clock(), 3 * 256 + 1);
        CHECK.due("latest(0, 0)", x.latest(0, 0), 2);
        CHECK.due("latest(0, 1)", x.latest(0, 1), 20 * 256 + 27);
        CHECK.due("letter(0, 0)", x.letter(0, 0), 34);
        CHECK.due("letter(0, 1)", x.letter(0, 1), 255);
    }

    private static void counter() {
        PacedMux x = new PacedMux(14, 200);
        x.add(0, 30, 90, 1);
        x.add(0, 30, 91, 1);
        x.tick(1);
        x.spoil(1, 4);
        CHECK.counts("5 after 0", x, 0, 1, 1, 0, 0, 0);
        x.tick(1);
        CHECK.counts("2 after 5", x, 0, 2, 1, 0, 0, 0);
        x.spoil(1, 1);
        CHECK.counts("the same again, a start", x, 0, 3, 1, 0, 0, 0);
        x.tick(2);
        CHECK.counts("4 after 2", x, 0, 4, 2, 0, 0, 0);
    }

    private static void size() {
        PacedMux x = new PacedMux(14, 200);
        x.add(0, 30, 90, 1);
        x.add(0, 3, 91, 1);
        x.add(0, 60, 92, 1);
        x.add(0, 1, 93, 1);
        x.tick(1);
        x.lose(2);
        x.spoil(2, 3);
        CHECK.counts("size 0: broken by the gap, strange", x, 0, 1, 1, 1, 0, 0);
        x.spoil(2, 1);
        CHECK.counts("size 61: strange, no gap", x, 0, 1, 1, 2, 0, 0);
        x.tick(4);
        CHECK.counts("nothing of it is collected", x, 0, 1, 1, 2, 0, 0);
        x.spoil(2, 61);
        CHECK.counts("size 60: collected", x, 0, 1, 1, 2, 0, 0);
        x.add(0, 1, 94, 9);
        x.tick(1);
        CHECK.counts("broken by the next start", x, 0, 1, 2, 2, 1, 1);
        x.tick(5);
        x.add(0, 1, 95, 9);
        x.spoil(4, 1);
        CHECK.counts("t 16: in a clock the size is behind it", x, 0, 1, 2, 3, 1, 1);
    }

    private static void letters() {
        PacedMux x = new PacedMux(14, 200);
        x.add(2, 9, 90, 100);
        x.spoil(15, 255);
        for (int i = 0; i < 8; i++) {
            CHECK.due("letter(2, " + i + ")", x.letter(2, i), 100 + 7 * i);
        }
        CHECK.due("the spoilt one", x.letter(2, 8), 255 - 156);
        CHECK.due("as it was sent", x.packet(15), 156);
        x.add(2, 1, 91, 100);
        x.spoil(3, 1);
        CHECK.due("a spoilt time due", x.latest(2, 1), 256 + 91);
    }
}
