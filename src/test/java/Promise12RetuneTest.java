/** Promise 12: retune puts the receiver, and the receiver alone, back to its beginning. */
public final class Promise12RetuneTest {
    private static final Check CHECK = new Check();

    public static void main(String[] args) {
        PacedMux x = new PacedMux(14, 200);
        x.add(0, 9, 100, 1);
        x.add(1, 60, 101, 1);
        x.tick(2);
        x.spoil(0, 1);
        x.tick(1);
        x.add(1, 60, 102, 1);
        x.tick(2);
        x.spoil(2, 255);
        CHECK.counts("before", x, 1, 1, 1, 1, 1, 1);
        int levels = x.levels(1);
        x.retune();
        CHECK.counts("after", x, 0, 0, 0, 0, 0, 0);
        CHECK.due("clock()", x.clock(), PacedMux.BAD);
        CHECK.due("latest(0, 0)", x.latest(0, 0), PacedMux.BAD);
        CHECK.due("latest(0, 2)", x.latest(0, 2), PacedMux.BAD);
        CHECK.due("letter(0, 0)", x.letter(0, 0), PacedMux.BAD);
        CHECK.due("levels(1)", x.levels(1), levels);
        CHECK.due("stored(0)", x.stored(0), 1);
        CHECK.due("tick(0)", x.tick(0), 7);
        nothingCollected();
        noCounters();
        countsAnew();
        newObject();
        asIfNothingCame();
        CHECK.end();
    }

    private static void newObject() {
        PacedMux x = new PacedMux(14, 200);
        x.retune();
        x.retune();
        CHECK.alike("retune of a new object", x, new PacedMux(14, 200));
    }

    /** "The receiver is as at first": as if each packet until then had been lost. */
    private static void asIfNothingCame() {
        PacedMux x = manyUnits();
        PacedMux y = manyUnits();
        for (int i = 0; i < 24; i++) {
            if (i % 5 == 3) {
                x.spoil(i % 16, 129);
            } else {
                x.tick(1);
            }
            y.lose(1);
        }
        CHECK.due("a unit arrived", x.count(4) > 0 ? 1 : 0, 1);
        CHECK.due("a clock is known", x.clock() >= 0 ? 1 : 0, 1);
        x.retune();
        x.tick(13);
        y.tick(13);
        CHECK.alike("after retune", x, y);
    }

    private static PacedMux manyUnits() {
        PacedMux x = new PacedMux(6, 90);
        for (int i = 0; i < 8; i++) {
            for (int s = 0; s < 3; s++) {
                x.add(s, 3 + 5 * i + s, 8 + 7 * i + s, 10 * i);
            }
        }
        return x;
    }

    private static void nothingCollected() {
        PacedMux x = new PacedMux(14, 200);
        x.add(0, 20, 100, 1);
        x.add(0, 5, 101, 1);
        x.tick(1);
        x.retune();
        x.tick(1);
        CHECK.counts("the second half is nothing", x, 0, 0, 0, 0, 0, 0);
        x.tick(1);
        CHECK.counts("nothing was broken", x, 0, 0, 0, 0, 1, 0);
    }

    private static void noCounters() {
        PacedMux x = new PacedMux(14, 200);
        x.add(0, 5, 100, 1);
        x.add(0, 5, 101, 1);
        x.add(0, 5, 102, 1);
        x.tick(1);
        x.lose(1);
        x.retune();
        x.tick(1);
        CHECK.counts("no gap", x, 0, 0, 0, 0, 1, 0);
    }

    private static void countsAnew() {
        PacedMux x = new PacedMux(14, 200);
        for (int i = 0; i < 5; i++) {
            x.add(2, 5, 100 + i, 1);
        }
        x.tick(3);
        CHECK.due("latest(2, 2)", x.latest(2, 2), 3);
        x.retune();
        x.tick(1);
        CHECK.due("latest(2, 2) counts anew", x.latest(2, 2), 1);
        x.tick(1);
        CHECK.due("latest(2, 2)", x.latest(2, 2), 2);
        CHECK.counts("not timely without a clock", x, 0, 0, 0, 0, 2, 0);
    }
}
