/** Terms, the receiver's a and b: packets that are ignored, the clock, the stream number 3. */
public final class TermsReceiverABTest {
    private static final Check CHECK = new Check();

    public static void main(String[] args) {
        for (int bits = 0; bits <= 255; bits++) {
            firstByte(bits);
        }
        ignoredBeforeAClock();
        ignoredClock();
        ignoredUnit();
        ignoredCounter();
        ignoredRound();
        clockMakesItKnown();
        clockTwoBytes();
        clockIsSetAnew();
        clockFlagTakenAway();
        clockRound();
        clockRoundByAUnit();
        numberThreeIsNothing();
        numberThreeWithStart();
        numberThreeCounter();
        numberThreeByDamage();
        CHECK.end();
    }

    /** A packet that reads as a clock of 65535, and makes it known; t is 1 then. */
    private static PacedMux atTheEndOfTheClock() {
        PacedMux x = new PacedMux(14, 200);
        x.lose(1);
        x.spoil(1, 64);
        CHECK.due("the greatest clock", x.clock(), 65535);
        return x;
    }

    /** a. "When its first byte is not 71, it is IGNORED". */
    private static void firstByte(int bits) {
        PacedMux x = new PacedMux(14, 200);
        x.add(0, 5, 500, 0);
        x.spoil(0, bits);
        boolean ignored = bits != 0;
        CHECK.due("ignored, " + bits, x.count(0), ignored ? 1 : 0);
        CHECK.due("arrived, " + bits, x.count(4), ignored ? 0 : 1);
        CHECK.due("clock, " + bits, x.clock(), ignored ? PacedMux.BAD : 0);
    }

    /** a. "the clock, if known, grows by 1": it does not become known. */
    private static void ignoredBeforeAClock() {
        PacedMux x = new PacedMux(14, 200);
        for (int i = 0; i < 9; i++) {
            x.spoil(0, 1);
        }
        CHECK.due("nine ignored, two clocks among them", x.clock(), PacedMux.BAD);
        CHECK.counts("nine", x, 9, 0, 0, 0, 0, 0);
    }

    /** An ignored clock does not set it: after a loss it is still behind. */
    private static void ignoredClock() {
        PacedMux x = new PacedMux(14, 200);
        x.tick(7);
        x.lose(1);
        CHECK.due("t 6 was the latest that came", x.clock(), 6);
        x.spoil(0, 128);
        CHECK.due("an ignored clock", x.clock(), 7);
        x.spoil(0, 128);
        CHECK.due("another packet", x.clock(), 8);
        x.tick(7);
        CHECK.due("the next clock sets it", x.clock(), 16);
    }

    /** "and nothing else happens": the unit stays collected. */
    private static void ignoredUnit() {
        PacedMux x = new PacedMux(14, 200);
        x.add(0, 20, 500, 3);
        x.tick(1);
        x.add(1, 5, 499, 4);
        x.spoil(0, 1);
        CHECK.due("stream 1 sent it", x.packet(1), 128 + 16);
        x.tick(1);
        CHECK.counts("stream 0 arrives", x, 1, 0, 0, 0, 1, 1);
        CHECK.latest("stream 0", x, 0, 20, 500, 3);
        CHECK.due("stream 1 has none", x.latest(1, 2), PacedMux.BAD);
    }

    /** "and nothing else happens": its counter is not the latest, so the next makes a gap. */
    private static void ignoredCounter() {
        PacedMux x = new PacedMux(14, 200);
        for (int i = 0; i < 3; i++) {
            x.add(0, 5, 500 + i, 0);
        }
        x.tick(1);
        x.spoil(0, 1);
        CHECK.counts("no gap yet", x, 1, 0, 0, 0, 1, 1);
        x.tick(1);
        CHECK.counts("2 after 0", x, 1, 1, 0, 0, 2, 2);
    }

    /** a. "(0 after 65535)". */
    private static void ignoredRound() {
        PacedMux x = atTheEndOfTheClock();
        x.spoil(0, 1);
        CHECK.due("0 after 65535", x.clock(), 0);
        x.spoil(0, 1);
        CHECK.due("1 after 0", x.clock(), 1);
        CHECK.counts("two", x, 2, 0, 0, 0, 0, 0);
    }

    /** b. "is known; otherwise it grows by 1 as above, if known". */
    private static void clockMakesItKnown() {
        PacedMux x = new PacedMux(14, 200);
        x.lose(1);
        for (int t = 1; t <= 7; t++) {
            x.tick(1);
            CHECK.due("t " + t, x.clock(), PacedMux.BAD);
        }
        for (int t = 8; t <= 17; t++) {
            x.tick(1);
            CHECK.due("t " + t, x.clock(), t);
        }
        PacedMux y = new PacedMux(14, 200);
        y.tick(1);
        CHECK.due("a clock of 0 is known", y.clock(), 0);
    }

    /** b. "the first times 256 plus the second". */
    private static void clockTwoBytes() {
        for (int bits : new int[] {0, 1, 127, 128, 254, 255}) {
            PacedMux x = new PacedMux(14, 200);
            x.spoil(2, bits);
            CHECK.due("first byte " + bits, x.clock(), bits * 256);
            PacedMux y = new PacedMux(14, 200);
            y.spoil(3, bits);
            CHECK.due("second byte " + bits, y.clock(), bits);
            y.tick(1);
            CHECK.due("then one more", y.clock(), bits + 1);
        }
    }

    /** A clock sets it back as well as forth. */
    private static void clockIsSetAnew() {
        PacedMux x = new PacedMux(14, 200);
        x.spoil(2, 255);
        x.tick(7);
        CHECK.due("65280 + 7", x.clock(), 65287);
        x.tick(1);
        CHECK.due("t 8", x.clock(), 8);
        x.lose(15);
        CHECK.due("losses are not seen", x.clock(), 8);
        x.tick(1);
        CHECK.due("t 24", x.clock(), 24);
    }

    /** Without its flag a clock is no clock, and its two bytes are the first of the unit's. */
    private static void clockFlagTakenAway() {
        PacedMux x = new PacedMux(14, 200);
        x.spoil(1, 64);
        CHECK.due("t 0, not known", x.clock(), PacedMux.BAD);
        x.tick(15);
        CHECK.due("t 15", x.clock(), 15);
        x.lose(8);
        x.spoil(1, 64);
        CHECK.due("t 24 is one more", x.clock(), 16);
        PacedMux y = new PacedMux(14, 200);
        y.tick(7);
        y.add(0, 22, 500, 0);
        y.tick(1);
        y.spoil(1, 64);
        CHECK.due("arrived", y.count(4), 1);
        CHECK.due("letter(0, 10)", y.letter(0, 10), 70);
        CHECK.due("letter(0, 11) is t / 256", y.letter(0, 11), 0);
        CHECK.due("letter(0, 12) is t % 256", y.letter(0, 12), 8);
        CHECK.due("letter(0, 13)", y.letter(0, 13), 77);
        CHECK.due("letter(0, 21)", y.letter(0, 21), 133);
    }

    /** b. "it grows by 1 as above": 0 after 65535. */
    private static void clockRound() {
        PacedMux x = atTheEndOfTheClock();
        x.lose(1);
        CHECK.due("a loss is not seen", x.clock(), 65535);
        x.tick(1);
        CHECK.due("0 after 65535", x.clock(), 0);
        x.tick(1);
        CHECK.due("1 after 0", x.clock(), 1);
        x.tick(4);
        CHECK.due("t 8", x.clock(), 8);
    }

    private static void clockRoundByAUnit() {
        PacedMux x = atTheEndOfTheClock();
        x.add(1, 60, 500, 0);
        x.tick(1);
        CHECK.due("0 after 65535", x.clock(), 0);
        x.tick(1);
        CHECK.due("1 after 0", x.clock(), 1);
    }

    /** b. "With the stream number 3 nothing more happens." */
    private static void numberThreeIsNothing() {
        PacedMux x = new PacedMux(14, 200);
        x.tick(17);
        CHECK.counts("nobody's", x, 0, 0, 0, 0, 0, 0);
        CHECK.due("clock()", x.clock(), 16);
        for (int s = 0; s < 3; s++) {
            CHECK.due("latest", x.latest(s, 0), PacedMux.BAD);
        }
    }

    /** Not even a strange start: the size would be 255, in a clock as well. */
    private static void numberThreeWithStart() {
        PacedMux x = new PacedMux(14, 200);
        x.spoil(1, 128);
        x.spoil(1, 128);
        CHECK.counts("nobody's starts", x, 0, 0, 0, 0, 0, 0);
        CHECK.due("clock()", x.clock(), 1);
    }

    /** Nobody's packets have no gaps. */
    private static void numberThreeCounter() {
        PacedMux x = new PacedMux(14, 200);
        x.spoil(1, 15);
        x.spoil(1, 3);
        x.spoil(1, 3);
        CHECK.counts("nobody's counters", x, 0, 0, 0, 0, 0, 0);
    }

    /** A stream's packet that reads as nobody's is a missing one. */
    private static void numberThreeByDamage() {
        PacedMux x = new PacedMux(14, 200);
        x.add(2, 30, 500, 0);
        x.tick(1);
        x.spoil(1, 16);
        CHECK.counts("nothing happens", x, 0, 0, 0, 0, 0, 0);
        CHECK.due("but for the clock", x.clock(), 1);
        x.tick(1);
        CHECK.counts("2 after 0", x, 0, 1, 1, 0, 0, 0);
        PacedMux y = new PacedMux(14, 200);
        y.tick(6);
        y.lose(2);
        y.add(1, 5, 500, 0);
        y.spoil(1, 32);
        CHECK.due("its clock is read", y.clock(), 8);
        CHECK.counts("its unit is not", y, 0, 0, 0, 0, 0, 0);
    }
}
