/** Terms, the receiver's e: bytes that are collected, units that arrive, timely ones. */
public final class TermsReceiverETest {
    private static final Check CHECK = new Check();

    public static void main(String[] args) {
        for (int size = 1; size <= 60; size++) {
            untilItIsWhole(size);
        }
        nothingCollected();
        noLongerCollected();
        latestStandsMeanwhile();
        bytesOfTheRest();
        shorterAfterLonger();
        for (int clock : new int[] {1, 2, 128 * 256 + 1, 255 * 256 + 1}) {
            for (int ahead : new int[] {0, 1, 2, 255, 256, 32766, 32767, 32768, 32769, 65535}) {
                timely(clock, ahead);
            }
        }
        for (int due : new int[] {0, 1, 2, 32765, 32766, 32767, 32768, 65534, 65535}) {
            timelyAtTheEndOfTheClock(due);
        }
        timelyByTheClockOfItsLastPacket();
        notTimelyWithoutAClock();
        CHECK.end();
    }

    /** "until it has as many as its size says": 9, then 14 a packet, from t 0 on. */
    private static void untilItIsWhole(int size) {
        PacedMux x = new PacedMux(14, 200);
        x.add(0, size, 500, size);
        int packets = size <= 9 ? 1 : 2 + (size - 10) / 14;
        for (int i = 1; i <= packets; i++) {
            CHECK.due("not yet, size " + size, x.count(4), 0);
            CHECK.due("not yet, size " + size, x.latest(0, 2), PacedMux.BAD);
            x.tick(1);
        }
        CHECK.due("arrived, size " + size, x.count(4), 1);
        CHECK.due("how many", x.latest(0, 2), 1);
        CHECK.latest("size " + size, x, 0, size, 500, size);
    }

    /** "When a unit is collected": else a packet's bytes go nowhere. */
    private static void nothingCollected() {
        PacedMux x = new PacedMux(14, 200);
        x.add(0, 60, 500, 0);
        x.lose(1);
        x.tick(6);
        CHECK.counts("its start was lost", x, 0, 0, 0, 0, 0, 0);
        CHECK.due("latest(0, 0)", x.latest(0, 0), PacedMux.BAD);
    }

    /** "and is no longer collected": another packet adds nothing to it, and nothing is broken. */
    private static void noLongerCollected() {
        PacedMux x = new PacedMux(14, 200);
        x.add(0, 5, 500, 60);
        x.tick(1);
        x.spoil(1, 48 + 1);
        CHECK.counts("nobody's reads as stream 0's counter 1", x, 0, 0, 0, 0, 1, 1);
        x.spoil(1, 48 + 5);
        CHECK.counts("and then its counter 5, a gap", x, 0, 1, 0, 0, 1, 1);
        CHECK.latest("as it arrived", x, 0, 5, 500, 60);
    }

    /** "it is the LATEST of its stream" only when it has arrived. */
    private static void latestStandsMeanwhile() {
        PacedMux x = new PacedMux(14, 200);
        x.add(0, 8, 500, 60);
        x.add(0, 40, 501, 70);
        x.add(0, 3, 502, 80);
        x.tick(3);
        CHECK.latest("the second is on its way", x, 0, 8, 500, 60);
        x.spoil(1, 8);
        CHECK.counts("it is broken", x, 0, 1, 1, 0, 1, 1);
        CHECK.latest("the first is still the latest", x, 0, 8, 500, 60);
        x.tick(2);
        CHECK.latest("now it is the third", x, 0, 3, 502, 80);
        CHECK.due("how many", x.latest(0, 2), 2);
    }

    /** A size that damage makes larger takes the 255s behind the unit's bytes, and more packets. */
    private static void bytesOfTheRest() {
        PacedMux x = new PacedMux(14, 200);
        x.add(0, 1, 500, 5);
        x.spoil(4, 1 ^ 10);
        CHECK.counts("ten bytes, nine came", x, 0, 0, 0, 0, 0, 0);
        x.spoil(1, 48 + 1);
        CHECK.counts("the tenth", x, 0, 0, 0, 0, 1, 1);
        CHECK.due("letter(0, 0)", x.letter(0, 0), 5);
        for (int i = 1; i < 10; i++) {
            CHECK.due("letter(0, " + i + ")", x.letter(0, i), 255);
        }
        CHECK.due("letter(0, 10)", x.letter(0, 10), PacedMux.BAD);
    }

    private static void shorterAfterLonger() {
        PacedMux x = new PacedMux(14, 200);
        x.add(0, 60, 500, 0);
        x.add(0, 1, 501, 99);
        x.add(0, 60, 502, 50);
        x.tick(6);
        CHECK.latest("one byte", x, 0, 1, 501, 99);
        for (int i = 1; i <= 60; i++) {
            CHECK.due("nothing of the long one", x.letter(0, i), PacedMux.BAD);
        }
        x.tick(6);
        CHECK.latest("sixty again", x, 0, 60, 502, 50);
    }

    /**
     * "(its time due - the clock), modulo 65536 from 0 on, is 1 .. 32767". At t 0 the clock
     * is set by damage, at t 1 the first byte of the time due.
     */
    private static void timely(int clock, int ahead) {
        PacedMux x = new PacedMux(14, 200);
        if (clock % 256 == 1) {
            x.spoil(2, clock / 256);
        } else {
            x.spoil(3, clock - 1);
        }
        int due = (clock + ahead) % 65536;
        int sent = due % 256 >= 2 ? due % 256 : 256 + due % 256;
        CHECK.due("add", x.add(0, 3, sent, 0), 1);
        x.spoil(3, sent / 256 ^ due / 256);
        CHECK.due("clock()", x.clock(), clock);
        CHECK.due("due", x.latest(0, 1), due);
        boolean timely = ahead >= 1 && ahead <= 32767;
        CHECK.counts("at " + clock + ", " + ahead + " ahead", x, 0, 0, 0, 0, 1, timely ? 1 : 0);
    }

    /**
     * The same at a clock of 65535: the tenth byte of the unit, 255, and the 255 behind it
     * read as a clock, and the next 255 as the tenth byte.
     */
    private static void timelyAtTheEndOfTheClock(int due) {
        PacedMux x = new PacedMux(14, 200);
        int sent = due % 256 >= 2 ? due % 256 : 256 + due % 256;
        CHECK.due("add", x.add(0, 10, sent, 192), 1);
        x.spoil(5, sent / 256 ^ due / 256);
        x.spoil(1, 64);
        CHECK.due("clock()", x.clock(), 65535);
        CHECK.latest("due " + due, x, 0, 10, due, 192);
        boolean timely = due <= 32766;
        CHECK.counts("at 65535, due " + due, x, 0, 0, 0, 0, 1, timely ? 1 : 0);
    }

    /** The clock that its last packet brings is the one that counts. */
    private static void timelyByTheClockOfItsLastPacket() {
        PacedMux x = new PacedMux(14, 200);
        x.lose(7);
        x.add(0, 12, 500, 0);
        x.tick(1);
        CHECK.due("not known", x.clock(), PacedMux.BAD);
        x.tick(1);
        CHECK.counts("known by t 8", x, 0, 0, 0, 0, 1, 1);
        PacedMux y = new PacedMux(14, 200);
        y.tick(7);
        y.add(0, 12, 20, 0);
        y.tick(1);
        y.spoil(3, 8 ^ 19);
        CHECK.counts("20 at 19", y, 0, 0, 0, 0, 1, 1);
        PacedMux z = new PacedMux(14, 200);
        z.tick(7);
        z.add(0, 12, 20, 0);
        z.tick(1);
        z.spoil(3, 8 ^ 20);
        CHECK.counts("20 at 20", z, 0, 0, 0, 0, 1, 0);
    }

    /** "TIMELY if the clock is known". */
    private static void notTimelyWithoutAClock() {
        PacedMux x = new PacedMux(14, 200);
        x.lose(1);
        for (int i = 0; i < 7; i++) {
            x.add(0, 1, 500 + i, 0);
        }
        x.tick(7);
        CHECK.counts("t 1 .. 7", x, 0, 0, 0, 0, 7, 0);
        x.add(0, 1, 507, 0);
        x.tick(1);
        CHECK.counts("t 8", x, 0, 0, 0, 0, 8, 1);
        x.retune();
        x.add(1, 1, 507, 0);
        x.tick(1);
        CHECK.counts("t 9, after retune", x, 0, 0, 0, 0, 1, 0);
    }
}
