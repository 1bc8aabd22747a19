/** Terms, the receiver's c: counters and gaps. */
public final class TermsReceiverCTest {
    private static final Check CHECK = new Check();

    public static void main(String[] args) {
        for (int s = 0; s < 3; s++) {
            for (int first = 0; first < 16; first++) {
                noPacketBefore(s, first);
                for (int next = 0; next < 16; next++) {
                    oneAfterAnother(s, first, next);
                }
            }
        }
        roundWithoutDamage();
        gapWithoutAUnit();
        gapWithAUnit();
        gapThenOneMore();
        gapBeforeAStart();
        sixteenLost();
        eachStreamHasItsOwn();
        afterRetune();
        CHECK.end();
    }

    /** "When a packet of the stream came before": the first has no gap before it. */
    private static void noPacketBefore(int s, int counter) {
        PacedMux x = new PacedMux(14, 200);
        for (int i = 0; i <= counter; i++) {
            x.add(s, 1, i + 1, 0);
            if (i < counter) {
                x.lose(1);
            }
        }
        x.tick(1);
        CHECK.due("counter", x.packet(1) % 16, counter);
        CHECK.due("gaps, first " + counter, x.count(1), 0);
        CHECK.due("arrived, first " + counter, x.count(4), 1);
    }

    /** "the counter is not 1 more than its (0 after 15)": every pair of counters. */
    private static void oneAfterAnother(int s, int first, int next) {
        PacedMux x = new PacedMux(14, 200);
        x.add(s, 20, 500, 0);
        x.spoil(1, first);
        CHECK.due("the first", x.count(1), 0);
        x.spoil(1, 1 ^ next);
        boolean follows = first == 15 ? next == 0 : next == first + 1;
        String when = "stream " + s + ": " + first + " then " + next;
        CHECK.counts(when, x, 0, follows ? 0 : 1, follows ? 0 : 1, 0, follows ? 1 : 0,
                follows ? 1 : 0);
    }

    private static void roundWithoutDamage() {
        PacedMux x = new PacedMux(14, 200);
        for (int i = 0; i < 33; i++) {
            x.add(2, 1, i + 1, 0);
            x.tick(1);
        }
        CHECK.counts("0 .. 15, 0 .. 15, 0", x, 0, 0, 0, 0, 33, 33);
    }

    /** "the unit that is collected, if any, is BROKEN": here there is none. */
    private static void gapWithoutAUnit() {
        PacedMux x = new PacedMux(14, 200);
        for (int i = 0; i < 3; i++) {
            x.add(0, 5, 500 + i, i);
        }
        x.tick(1);
        x.lose(1);
        x.tick(1);
        CHECK.counts("a gap, nothing broken", x, 0, 1, 0, 0, 2, 2);
        CHECK.latest("the third", x, 0, 5, 502, 2);
    }

    /** A broken unit goes: what comes of it later is not collected. */
    private static void gapWithAUnit() {
        PacedMux x = new PacedMux(14, 200);
        x.add(0, 5, 499, 77);
        x.add(0, 60, 500, 0);
        x.tick(2);
        x.lose(1);
        x.tick(1);
        CHECK.counts("broken", x, 0, 1, 1, 0, 1, 1);
        x.tick(6);
        CHECK.counts("and gone", x, 0, 1, 1, 0, 1, 1);
        CHECK.latest("the one before it", x, 0, 5, 499, 77);
    }

    /** The counter behind a gap is the latest one then. */
    private static void gapThenOneMore() {
        PacedMux x = new PacedMux(14, 200);
        for (int i = 0; i < 8; i++) {
            x.add(0, 5, 500 + i, 0);
        }
        x.tick(1);
        x.lose(2);
        x.tick(1);
        CHECK.counts("3 after 0", x, 0, 1, 0, 0, 2, 2);
        x.tick(1);
        CHECK.counts("4 after 3", x, 0, 1, 0, 0, 3, 3);
        x.spoil(1, 4);
        CHECK.counts("1 after 4", x, 0, 2, 0, 0, 4, 4);
        x.tick(1);
        CHECK.counts("6 after 1", x, 0, 3, 0, 0, 5, 5);
        x.tick(1);
        CHECK.counts("7 after 6", x, 0, 3, 0, 0, 6, 6);
    }

    /** A gap at a start breaks a unit once, not twice. */
    private static void gapBeforeAStart() {
        PacedMux x = new PacedMux(14, 200);
        x.add(0, 20, 500, 0);
        x.add(0, 5, 501, 9);
        x.tick(1);
        x.lose(1);
        x.tick(1);
        CHECK.counts("one gap, one broken, one arrived", x, 0, 1, 1, 0, 1, 1);
        CHECK.latest("the second", x, 0, 5, 501, 9);
    }

    /** Fifteen and seventeen losses are seen, sixteen are not. */
    private static void sixteenLost() {
        for (int lost = 15; lost <= 17; lost++) {
            PacedMux x = new PacedMux(14, 200);
            for (int i = 0; i < lost + 2; i++) {
                x.add(0, 1, i + 1, 0);
                if (i == 0 || i == lost + 1) {
                    x.tick(1);
                } else {
                    x.lose(1);
                }
            }
            CHECK.counts(lost + " lost", x, 0, lost == 16 ? 0 : 1, 0, 0, 2, 2);
        }
    }

    private static void eachStreamHasItsOwn() {
        PacedMux x = new PacedMux(14, 200);
        x.add(0, 20, 500, 1);
        x.add(0, 5, 505, 2);
        x.tick(1);
        x.add(1, 5, 498, 3);
        x.add(1, 5, 499, 4);
        x.tick(1);
        x.lose(1);
        CHECK.due("stream 1 lost its second", x.stored(1), 2);
        x.tick(1);
        CHECK.counts("no gap of stream 0", x, 0, 0, 0, 0, 2, 2);
        x.add(1, 5, 501, 5);
        x.tick(1);
        CHECK.counts("a gap of stream 1", x, 0, 1, 0, 0, 3, 3);
        x.add(2, 5, 502, 6);
        x.tick(1);
        CHECK.counts("the first of stream 2", x, 0, 1, 0, 0, 4, 4);
        x.tick(1);
        CHECK.counts("no gap of stream 0", x, 0, 1, 0, 0, 5, 5);
    }

    private static void afterRetune() {
        PacedMux x = new PacedMux(14, 200);
        for (int s = 0; s < 3; s++) {
            x.add(s, 5, 500, 0);
            x.add(s, 5, 501, 0);
            x.add(s, 5, 502, 0);
        }
        x.tick(3);
        x.lose(3);
        x.retune();
        x.tick(3);
        CHECK.counts("no packet came before; t 8 is a clock", x, 0, 0, 0, 0, 3, 1);
    }
}
