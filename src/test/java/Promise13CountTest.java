/** Promise 13: what the receiver counts. */
public final class Promise13CountTest {
    private static final Check CHECK = new Check();

    public static void main(String[] args) {
        PacedMux x = new PacedMux(7, 100);
        for (int bad : new int[] {-1, 6, Integer.MIN_VALUE, Integer.MAX_VALUE}) {
            CHECK.due("count(" + bad + ")", x.count(bad), PacedMux.BAD);
        }
        eachCount();
        wrapIsNoGap();
        gapWithoutUnit();
        streamsApart();
        timely();
        timelyFar();
        timelyOverTheEnd();
        CHECK.end();
    }

    /** Each k from 0 to 5 grows by itself, or with those that the document ties to it. */
    private static void eachCount() {
        PacedMux x = new PacedMux(14, 200);
        x.tick(1);
        for (int i = 0; i < 5; i++) {
            x.add(0, 1, 10 + i, 0);
        }
        x.tick(5);
        CHECK.counts("five timely ones", x, 0, 0, 0, 0, 5, 5);
        for (int i = 0; i < 6; i++) {
            x.spoil(0, 1);
        }
        CHECK.counts("six ignored", x, 6, 0, 0, 0, 5, 5);
        x.retune();
        CHECK.counts("none", x, 0, 0, 0, 0, 0, 0);
        x.add(0, 1, 505, 0);
        x.tick(1);
        CHECK.counts("no clock", x, 0, 0, 0, 0, 1, 0);
        x.add(0, 1, 506, 0);
        x.spoil(2, 1);
        CHECK.counts("strange", x, 0, 0, 0, 1, 1, 0);
        x.add(0, 12, 507, 0);
        x.tick(1);
        x.spoil(1, 8);
        CHECK.counts("a gap, one broken", x, 0, 1, 1, 1, 1, 0);
        x.add(0, 1, 508, 0);
        x.tick(1);
        CHECK.counts("another gap", x, 0, 2, 1, 1, 2, 1);
    }

    private static void wrapIsNoGap() {
        PacedMux x = new PacedMux(14, 200);
        for (int i = 0; i < 40; i++) {
            x.add(0, 1, i + 2, 0);
            x.tick(1);
        }
        CHECK.counts("forty units", x, 0, 0, 0, 0, 40, 40);
        x.add(0, 1, 60, 0);
        x.add(0, 1, 61, 0);
        x.lose(1);
        x.tick(1);
        CHECK.counts("one lost", x, 0, 1, 0, 0, 41, 41);
    }

    /** Sixteen lost packets of a stream are not seen as a gap. */
    private static void gapWithoutUnit() {
        PacedMux x = new PacedMux(14, 200);
        for (int i = 0; i < 18; i++) {
            x.add(0, 1, i + 2, 0);
            if (i == 0 || i == 17) {
                x.tick(1);
            } else {
                x.lose(1);
            }
        }
        CHECK.counts("0, 16 lost, then 1", x, 0, 0, 0, 0, 2, 2);
    }

    private static void streamsApart() {
        PacedMux x = new PacedMux(14, 200);
        x.add(0, 20, 100, 0);
        x.add(1, 20, 101, 0);
        x.add(2, 20, 102, 0);
        x.tick(1);
        x.add(1, 3, 103, 0);
        x.tick(1);
        CHECK.counts("one", x, 0, 0, 0, 0, 1, 1);
        x.tick(1);
        x.lose(1);
        x.tick(1);
        CHECK.counts("a loss of stream 1 is no gap of stream 2", x, 0, 0, 0, 0, 1, 1);
        x.tick(2);
        CHECK.counts("streams 2 and 1 arrive, 1 with a gap", x, 0, 1, 1, 0, 3, 3);
    }

    private static void timely() {
        PacedMux x = new PacedMux(14, 200);
        x.lose(1);
        x.add(0, 1, 100, 0);
        x.tick(1);
        CHECK.counts("the clock is not known", x, 0, 0, 0, 0, 1, 0);
        PacedMux y = new PacedMux(14, 200);
        y.add(0, 1, 1, 0);
        y.tick(1);
        CHECK.counts("1 ahead", y, 0, 0, 0, 0, 1, 1);
        y.add(0, 1, 2, 0);
        y.spoil(4, 2 ^ 1);
        CHECK.counts("0 ahead", y, 0, 0, 0, 0, 2, 1);
        y.add(0, 1, 3, 0);
        y.spoil(4, 3 ^ 1);
        CHECK.counts("1 behind", y, 0, 0, 0, 0, 3, 1);
        y.add(0, 1, 4, 0);
        y.tick(1);
        CHECK.counts("1 ahead", y, 0, 0, 0, 0, 4, 2);
    }

    /** An idle packet that reads as a clock sets it to 65535, so that the next is 0. */
    private static void timelyFar() {
        PacedMux x = new PacedMux(14, 200);
        x.tick(1);
        x.spoil(1, 64);
        CHECK.due("clock()", x.clock(), 65535);
        x.add(0, 1, 254, 0);
        x.spoil(3, 127);
        CHECK.due("due", x.latest(0, 1), 127 * 256 + 254);
        CHECK.counts("at the clock 0, 32766 ahead", x, 0, 0, 0, 0, 1, 1);
        x.add(0, 1, 256, 0);
        x.spoil(3, 129);
        CHECK.due("due", x.latest(0, 1), 128 * 256);
        CHECK.counts("at the clock 1, 32767 ahead", x, 0, 0, 0, 0, 2, 2);
        x.add(0, 1, 258, 0);
        x.spoil(3, 129);
        CHECK.due("due", x.latest(0, 1), 128 * 256 + 2);
        CHECK.counts("at the clock 2, 32768 ahead", x, 0, 0, 0, 0, 3, 2);
    }

    private static void timelyOverTheEnd() {
        PacedMux x = new PacedMux(14, 200);
        x.spoil(2, 255);
        x.add(0, 1, 5, 0);
        x.tick(1);
        CHECK.due("clock()", x.clock(), 65281);
        CHECK.counts("5 is 260 ahead of 65281", x, 0, 0, 0, 0, 1, 1);
    }
}
