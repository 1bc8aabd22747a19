/** Promise 2: add, its codes and their order. */
public final class Promise02AddTest {
    private static final Check CHECK = new Check();
    private static final int[] FAR = {Integer.MIN_VALUE, Integer.MAX_VALUE};

    public static void main(String[] args) {
        ranges();
        insideRanges();
        dues();
        duesInside();
        dueBefore();
        dueBeforeOfUnitsThatWent();
        full();
        orderOfCodes();
        allCodesAtOnce();
        CHECK.end();
    }

    private static void ranges() {
        PacedMux x = new PacedMux(7, 100);
        for (int s = 0; s < 3; s++) {
            CHECK.due("least", x.add(s, 1, 1, 0), 1);
            CHECK.due("most", x.add(s, 60, 1000, 255), 2);
        }
        PacedMux y = new PacedMux(7, 100);
        for (int bad : new int[] {-1, 3, FAR[0], FAR[1]}) {
            CHECK.due("stream " + bad, y.add(bad, 1, 5, 0), PacedMux.BAD);
        }
        for (int bad : new int[] {0, -1, 61, FAR[0], FAR[1]}) {
            CHECK.due("size " + bad, y.add(0, bad, 5, 0), PacedMux.BAD);
        }
        for (int bad : new int[] {-1, 256, FAR[0], FAR[1]}) {
            CHECK.due("seed " + bad, y.add(0, 1, 5, bad), PacedMux.BAD);
        }
        for (int s = 0; s < 3; s++) {
            CHECK.due("nothing was added", y.waiting(s), 0);
        }
    }

    private static void insideRanges() {
        for (int s = 0; s < 3; s++) {
            for (int size : Range.inside(1, 60)) {
                CHECK.due("size " + size, new PacedMux(7, 100).add(s, size, 5, 9), 1);
            }
            for (int seed : Range.inside(0, 255)) {
                CHECK.due("seed " + seed, new PacedMux(7, 100).add(s, 5, 5, seed), 1);
            }
        }
    }

    private static void dues() {
        PacedMux x = new PacedMux(7, 100);
        for (int bad : new int[] {0, -1, 1001, FAR[0], FAR[1]}) {
            CHECK.due("due " + bad, x.add(0, 1, bad, 0), PacedMux.ORDER);
        }
        x.tick(5);
        for (int bad : new int[] {0, 4, 5, 1006, FAR[0], FAR[1]}) {
            CHECK.due("at 5, due " + bad, x.add(0, 1, bad, 0), PacedMux.ORDER);
        }
        CHECK.due("at 5, due 6", x.add(0, 1, 6, 0), 1);
        CHECK.due("at 5, due 1005", x.add(0, 1, 1005, 0), 2);
    }

    private static void duesInside() {
        for (int time : new int[] {0, 1, 40}) {
            for (int due : Range.inside(time + 1, time + 1000)) {
                PacedMux x = new PacedMux(7, 100);
                x.tick(time);
                CHECK.due("at " + time + ", due " + due, x.add(2, 1, due, 0), 1);
            }
            for (int due : Range.outside(time + 1, time + 1000)) {
                PacedMux x = new PacedMux(7, 100);
                x.tick(time);
                CHECK.due("at " + time + ", due " + due, x.add(2, 1, due, 0), PacedMux.ORDER);
                CHECK.due("none waits", x.waiting(2), 0);
            }
        }
    }

    private static void dueBefore() {
        PacedMux x = new PacedMux(7, 100);
        CHECK.due("first", x.add(1, 1, 10, 0), 1);
        CHECK.due("the same", x.add(1, 1, 10, 0), PacedMux.ORDER);
        CHECK.due("sooner", x.add(1, 1, 9, 0), PacedMux.ORDER);
        CHECK.due("another stream", x.add(2, 1, 9, 0), 1);
        CHECK.due("one more", x.add(1, 1, 11, 0), 2);
        x.tick(3);
        CHECK.due("all were sent", x.waiting(1), 0);
        CHECK.due("after a sent one", x.add(1, 1, 11, 0), PacedMux.ORDER);
        x.retune();
        CHECK.due("retune is not the sender's", x.add(1, 1, 11, 0), PacedMux.ORDER);
        CHECK.due("refused ones leave no trace", x.add(1, 1, 1004, 0), PacedMux.ORDER);
        CHECK.due("refused ones leave no trace", x.add(1, 0, 500, 0), PacedMux.BAD);
        CHECK.due("later", x.add(1, 1, 12, 0), 1);
        x.tick(20);
        CHECK.due("at 23", x.add(1, 1, 23, 0), PacedMux.ORDER);
        CHECK.due("at 23", x.add(1, 1, 24, 0), 1);
    }

    /** The unit added before counts, also when it is late or stored or gone. */
    private static void dueBeforeOfUnitsThatWent() {
        PacedMux x = new PacedMux(14, 200);
        x.add(0, 60, 1, 0);
        x.add(1, 5, 30, 0);
        x.tick(2);
        CHECK.due("late", x.late(0), 1);
        CHECK.due("stored", x.stored(1), 1);
        CHECK.due("after a late one", x.add(0, 5, 3, 0), 1);
        CHECK.due("as a stored one", x.add(1, 5, 30, 0), PacedMux.ORDER);
        CHECK.due("after a stored one", x.add(1, 5, 31, 0), 1);
        x.tick(38);
        CHECK.due("gone", x.stored(1), 0);
        CHECK.due("as a gone one", x.add(1, 5, 31, 0), PacedMux.ORDER);
        CHECK.due("after a gone one", x.add(1, 5, 41, 0), 1);
        CHECK.due("as the one that waits", x.add(1, 5, 41, 0), PacedMux.ORDER);
    }

    private static void full() {
        PacedMux x = new PacedMux(7, 100);
        for (int i = 1; i <= 8; i++) {
            CHECK.due("add", x.add(0, 60, 100 + i, 0), i);
        }
        CHECK.due("a ninth", x.add(0, 60, 150, 0), PacedMux.FULL);
        CHECK.due("still eight", x.waiting(0), 8);
        CHECK.due("another stream", x.add(1, 60, 150, 0), 1);
        CHECK.due("a unit sent in part still waits", x.tick(1), 1);
        CHECK.due("a ninth", x.add(0, 60, 150, 0), PacedMux.FULL);
        x.tick(30);
        int waiting = x.waiting(0);
        CHECK.due("a refused one leaves no trace", x.add(0, 1, 109, 0), waiting + 1);
    }

    private static void orderOfCodes() {
        PacedMux x = new PacedMux(7, 100);
        CHECK.due("BAD before ORDER", x.add(3, 1, 0, 0), PacedMux.BAD);
        CHECK.due("BAD before ORDER", x.add(0, 0, 0, 0), PacedMux.BAD);
        CHECK.due("BAD before ORDER", x.add(0, 1, 0, 256), PacedMux.BAD);
        for (int i = 1; i <= 8; i++) {
            x.add(0, 60, 100 + i, 0);
        }
        CHECK.due("ORDER before FULL", x.add(0, 60, 108, 0), PacedMux.ORDER);
        CHECK.due("ORDER before FULL", x.add(0, 60, 1001, 0), PacedMux.ORDER);
        CHECK.due("BAD before FULL", x.add(0, 61, 109, 0), PacedMux.BAD);
        CHECK.due("FULL", x.add(0, 60, 109, 0), PacedMux.FULL);
    }

    /** Eight wait: every mixture of what is wrong answers the first code that fits. */
    private static void allCodesAtOnce() {
        PacedMux x = new PacedMux(7, 100);
        for (int i = 1; i <= 8; i++) {
            x.add(1, 60, 100 + i, 0);
        }
        int[] streams = {1, 3, -1};
        int[] sizes = {1, 60, 0, 61};
        int[] seeds = {0, 255, -1, 256};
        int[] dues = {109, 1000, 108, 0, 1001};
        for (int s : streams) {
            for (int size : sizes) {
                for (int seed : seeds) {
                    boolean bad = s != 1 || size < 1 || size > 60 || seed < 0 || seed > 255;
                    for (int due : dues) {
                        boolean order = due <= 108 || due > 1000;
                        int want = bad ? PacedMux.BAD : order ? PacedMux.ORDER : PacedMux.FULL;
                        CHECK.due("add(" + s + ", " + size + ", " + due + ", " + seed + ")",
                                x.add(s, size, due, seed), want);
                    }
                }
            }
        }
        CHECK.due("still eight", x.waiting(1), 8);
    }
}
