/** Promise 4: lose lets ticks go by as tick does, but the receiver sees nothing. */
public final class Promise04LoseTest {
    private static final Check CHECK = new Check();

    public static void main(String[] args) {
        PacedMux x = new PacedMux(7, 100);
        for (int bad : new int[] {-1, 41, Integer.MIN_VALUE, Integer.MAX_VALUE}) {
            CHECK.due("lose(" + bad + ")", x.lose(bad), PacedMux.BAD);
        }
        CHECK.due("lose(0)", x.lose(0), 0);
        CHECK.due("lose(0) is no tick", x.packet(0), PacedMux.BAD);
        x.add(0, 5, 90, 3);
        CHECK.due("lose(1)", x.lose(1), 1);
        CHECK.packet("lost", x, 71, 192, 0, 0, 5, 0, 90, 3, 10, 17, 24, 31);
        CHECK.due("levels", x.levels(0), 5 * 32 + 5);
        CHECK.due("stored", x.stored(0), 1);
        CHECK.due("clock()", x.clock(), PacedMux.BAD);
        CHECK.due("nothing arrived", x.latest(0, 2), PacedMux.BAD);
        CHECK.due("lose(40)", x.lose(40), 41);
        CHECK.due("lose(40)", x.lose(40), 81);
        x.tick(8);
        CHECK.due("clock()", x.clock(), 88);
        x.lose(3);
        CHECK.due("clock() stands", x.clock(), 88);
        x.tick(1);
        CHECK.due("clock() counts what came", x.clock(), 89);
        CHECK.counts("no gap", x, 0, 0, 0, 0, 0, 0);
        CHECK.due("lose(39)", x.lose(39), 132);
        CHECK.due("lose(41)", x.lose(41), PacedMux.BAD);
        CHECK.due("lose(0)", x.lose(0), 132);
        gapAfterLoss();
        CHECK.end();
    }

    private static void gapAfterLoss() {
        PacedMux x = new PacedMux(14, 200);
        x.add(1, 60, 90, 3);
        x.add(1, 5, 91, 4);
        x.tick(1);
        x.lose(1);
        x.tick(1);
        CHECK.counts("a gap, a broken unit", x, 0, 1, 1, 0, 0, 0);
        x.tick(2);
        CHECK.counts("the rest of it is nothing", x, 0, 1, 1, 0, 0, 0);
        x.tick(1);
        CHECK.counts("the next one arrives", x, 0, 1, 1, 0, 1, 1);
        CHECK.due("latest(1, 0)", x.latest(1, 0), 5);
    }
}
