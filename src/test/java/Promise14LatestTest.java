/** Promise 14: size, time due and number of the units of a stream that arrived. */
public final class Promise14LatestTest {
    private static final Check CHECK = new Check();

    public static void main(String[] args) {
        PacedMux x = new PacedMux(14, 200);
        x.add(1, 20, 300, 1);
        x.add(1, 40, 999, 1);
        x.tick(1);
        for (int what = -1; what <= 3; what++) {
            CHECK.due("none arrived", x.latest(1, what), PacedMux.BAD);
        }
        x.tick(1);
        latestIs(x, 20, 300, 1);
        for (int bad : new int[] {-1, 3, Integer.MIN_VALUE, Integer.MAX_VALUE}) {
            CHECK.due("latest(1, " + bad + ")", x.latest(1, bad), PacedMux.BAD);
            CHECK.due("latest(" + bad + ", 0)", x.latest(bad, 0), PacedMux.BAD);
        }
        CHECK.due("latest(0, 2)", x.latest(0, 2), PacedMux.BAD);
        CHECK.due("latest(2, 2)", x.latest(2, 2), PacedMux.BAD);
        x.tick(3);
        latestIs(x, 20, 300, 1);
        x.tick(1);
        latestIs(x, 40, 999, 2);
        x.add(0, 1, 50, 0);
        x.tick(1);
        CHECK.due("latest(0, 2)", x.latest(0, 2), 1);
        latestIs(x, 40, 999, 2);
        x.lose(1);
        latestIs(x, 40, 999, 2);
        CHECK.end();
    }

    private static void latestIs(PacedMux x, int size, int due, int arrived) {
        CHECK.due("latest(1, 0)", x.latest(1, 0), size);
        CHECK.due("latest(1, 1)", x.latest(1, 1), due);
        CHECK.due("latest(1, 2)", x.latest(1, 2), arrived);
    }
}
