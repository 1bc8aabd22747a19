/** "An object is used for at most 512 calls": all of them answer as they must. */
public final class CallLimitTest {
    private static final Check CHECK = new Check();
    private static final int CALLS = 512;

    public static void main(String[] args) {
        ticksOnly();
        addsAtTheEnd();
        manyUnits();
        CHECK.end();
    }

    private static void ticksOnly() {
        PacedMux x = new PacedMux(14, 200);
        for (int i = 1; i < CALLS; i++) {
            CHECK.due("tick(40)", x.tick(40), 40 * i);
        }
        CHECK.due("clock()", x.clock(), 20439);
        PacedMux y = new PacedMux(14, 200);
        for (int i = 1; i <= CALLS; i++) {
            CHECK.due("lose(40)", y.lose(40), 40 * i);
        }
    }

    /** At TIME 20360 units may be due at 20361 .. 21360. */
    private static void addsAtTheEnd() {
        PacedMux x = new PacedMux(14, 200);
        for (int i = 0; i < CALLS - 3; i++) {
            x.tick(40);
        }
        CHECK.due("TIME + 1001", x.add(0, 1, 21361, 0), PacedMux.ORDER);
        CHECK.due("TIME", x.add(0, 1, 20360, 0), PacedMux.ORDER);
        CHECK.due("TIME + 1000", x.add(0, 1, 21360, 0), 1);
        PacedMux y = new PacedMux(14, 200);
        for (int i = 0; i < CALLS - 1; i++) {
            y.tick(40);
        }
        CHECK.due("TIME + 1", y.add(0, 1, 20441, 0), 1);
    }

    /** 255 units of a byte, one a tick. */
    private static void manyUnits() {
        PacedMux x = new PacedMux(14, 200);
        for (int i = 0; i < 255; i++) {
            CHECK.due("add", x.add(2, 1, i + 1, i), 1);
            CHECK.due("tick(1)", x.tick(1), i + 1);
        }
        CHECK.due("latest(2, 2)", x.latest(2, 2), 255);
        CHECK.due("count(5)", x.count(5), 255);
    }
}
