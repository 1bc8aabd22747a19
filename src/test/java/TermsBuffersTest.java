/** Terms, BUFFERS: LOW of 0 .. 28, HIGH of 0 .. CAPACITY, both 0 at first, as is TIME. */
public final class TermsBuffersTest {
    private static final Check CHECK = new Check();

    public static void main(String[] args) {
        zeroAtFirst();
        lowIsFull();
        highIsFull(20, 9, 11);
        highIsFull(21, 9, 12);
        highIsFull(100, 60, 40);
        highIsFull(199, 60, 60, 60, 19);
        highIsFull(200, 60, 60, 60, 20);
        highEmptyBeforeLow();
        eachStreamHasItsOwn();
        CHECK.end();
    }

    private static void zeroAtFirst() {
        PacedMux x = new PacedMux(14, 200);
        CHECK.due("TIME", x.tick(0), 0);
        CHECK.due("TIME", x.lose(0), 0);
        for (int s = 0; s < 3; s++) {
            CHECK.due("levels", x.levels(s), 0);
        }
        PacedMux y = new PacedMux(14, 200);
        CHECK.due("TIME + 1", y.add(0, 1, 1, 0), 1);
        CHECK.due("TIME + 1000", y.add(1, 1, 1000, 0), 1);
    }

    /** LOW stands at 28 for as long as a byte a tick leaks and a byte a tick is sent. */
    private static void lowIsFull() {
        PacedMux x = new PacedMux(1, 200);
        x.add(0, 9, 500, 0);
        x.add(0, 11, 501, 0);
        x.add(0, 10, 502, 0);
        x.add(0, 1, 503, 0);
        x.add(0, 1, 504, 0);
        x.add(0, 2, 505, 0);
        x.tick(3);
        CHECK.stream("9, 8 + 11, 18 + 10", x, 0, 30, 28, 3, 3);
        x.tick(1);
        CHECK.stream("27 + 1", x, 0, 31, 28, 2, 4);
        x.tick(1);
        CHECK.stream("27 + 1", x, 0, 32, 28, 1, 5);
        x.tick(1);
        CHECK.stream("27 + 2 is 29", x, 0, 32, 27, 1, 5);
        x.tick(1);
        CHECK.stream("26 + 2", x, 0, 34, 28, 0, 6);
    }

    /** Units that fill HIGH to the brim are sent, and not a byte more. */
    private static void highIsFull(int capacity, int... sizes) {
        PacedMux x = new PacedMux(14, capacity);
        int due = 500;
        for (int size : sizes) {
            x.add(1, size, due, 0);
            due++;
        }
        x.add(1, 1, due, 0);
        x.tick(40);
        CHECK.stream("HIGH is CAPACITY " + capacity, x, 1, capacity, 0, 1, sizes.length);
    }

    /** A late unit takes its bytes out of HIGH and leaves LOW as it is. */
    private static void highEmptyBeforeLow() {
        PacedMux x = new PacedMux(1, 200);
        x.add(2, 60, 2, 0);
        x.tick(2);
        CHECK.stream("23 sent", x, 2, 23, 22, 1, 0);
        x.tick(1);
        CHECK.stream("late", x, 2, 0, 21, 0, 0);
        x.tick(20);
        CHECK.stream("twenty ticks later", x, 2, 0, 1, 0, 0);
        x.tick(1);
        CHECK.stream("LOW is empty", x, 2, 0, 0, 0, 0);
        x.tick(1);
        CHECK.stream("and stays so", x, 2, 0, 0, 0, 0);
    }

    private static void eachStreamHasItsOwn() {
        PacedMux x = new PacedMux(1, 20);
        x.add(0, 9, 500, 0);
        x.add(1, 10, 501, 0);
        x.add(2, 11, 502, 0);
        x.tick(3);
        CHECK.stream("9 at 0, 2 ticks ago", x, 0, 9, 7, 0, 1);
        CHECK.stream("10 at 1, a tick ago", x, 1, 10, 9, 0, 1);
        CHECK.stream("11 at 2", x, 2, 11, 11, 0, 1);
    }
}
