/** Promise 3: tick, and the parts of a tick. */
public final class Promise03TickTest {
    private static final Check CHECK = new Check();

    public static void main(String[] args) {
        numbers();
        dueFirst();
        leastNumber();
        notReadyGivesWay();
        lowBound();
        highBound();
        storedBound();
        counters();
        lateInTheMiddle();
        storedGoesThenRoom();
        CHECK.end();
    }

    private static void numbers() {
        PacedMux x = new PacedMux(7, 100);
        for (int bad : new int[] {-1, 41, Integer.MIN_VALUE, Integer.MAX_VALUE}) {
            CHECK.due("tick(" + bad + ")", x.tick(bad), PacedMux.BAD);
        }
        CHECK.due("tick(0)", x.tick(0), 0);
        CHECK.due("tick(0) is no tick", x.packet(0), PacedMux.BAD);
        CHECK.due("tick(40)", x.tick(40), 40);
        CHECK.due("tick(1)", x.tick(1), 41);
        CHECK.due("tick(41)", x.tick(41), PacedMux.BAD);
        CHECK.due("tick(0)", x.tick(0), 41);
        CHECK.due("tick(39)", x.tick(39), 80);
    }

    private static void dueFirst() {
        PacedMux x = new PacedMux(14, 200);
        x.add(0, 5, 30, 0);
        x.add(1, 5, 20, 0);
        x.add(2, 5, 25, 0);
        CHECK.due("t 0", x.tick(1), 1);
        CHECK.due("stream 1 first", x.packet(1), 128 + 64 + 16);
        x.tick(1);
        CHECK.due("then 2", x.packet(1), 128 + 32);
        x.tick(1);
        CHECK.due("then 0", x.packet(1), 128);
        x.tick(1);
        CHECK.due("then none", x.packet(1), 48);
    }

    private static void leastNumber() {
        PacedMux x = new PacedMux(14, 200);
        for (int s = 2; s >= 0; s--) {
            x.add(s, 5, 20, 0);
        }
        for (int s = 0; s < 3; s++) {
            x.tick(1);
            CHECK.due("equal dues, " + s, x.packet(1) % 64, 16 * s);
        }
    }

    /** Stream 0 is due first but has no room; the other one goes. */
    private static void notReadyGivesWay() {
        PacedMux x = new PacedMux(1, 200);
        x.add(0, 60, 50, 0);
        x.add(2, 4, 60, 0);
        x.tick(1);
        CHECK.due("9 bytes", x.levels(0), 9 * 32 + 9);
        x.tick(1);
        CHECK.due("14 more", x.levels(0), 23 * 32 + 22);
        x.tick(1);
        CHECK.due("21 + 14 is over 28: the other", x.packet(1), 128 + 32);
        CHECK.due("LOW falls all the same", x.levels(0), 23 * 32 + 21);
        x.tick(1);
        CHECK.due("none", x.packet(1), 48);
    }

    /** LOW + n may be 28 and not 29. */
    private static void lowBound() {
        PacedMux x = new PacedMux(1, 200);
        x.add(0, 9, 100, 0);
        x.add(0, 11, 101, 0);
        x.add(0, 10, 102, 0);
        x.add(0, 1, 103, 0);
        x.tick(3);
        CHECK.due("9, 8 + 11, 18 + 10", x.levels(0), 30 * 32 + 28);
        PacedMux y = new PacedMux(1, 200);
        y.add(0, 9, 100, 0);
        y.add(0, 11, 101, 0);
        y.add(0, 11, 102, 0);
        y.tick(3);
        CHECK.due("18 + 11 is too much", y.levels(0), 20 * 32 + 18);
        y.tick(1);
        CHECK.due("17 + 11 is not", y.levels(0), 31 * 32 + 28);
    }

    private static void highBound() {
        PacedMux x = new PacedMux(14, 25);
        x.add(0, 9, 50, 0);
        x.add(0, 11, 100, 0);
        x.add(0, 5, 101, 0);
        x.add(0, 1, 102, 0);
        x.tick(5);
        CHECK.due("HIGH is CAPACITY", x.levels(0), 25 * 32);
        CHECK.due("one waits", x.waiting(0), 1);
        x.tick(40);
        x.tick(5);
        CHECK.due("before 50 it still waits", x.waiting(0), 1);
        x.tick(1);
        CHECK.due("at 50 the first goes and the last is sent", x.levels(0), 17 * 32 + 1);
        CHECK.due("it waits no more", x.waiting(0), 0);
    }

    /** Eight stored ones hold a start back, and only the stream's own. */
    private static void storedBound() {
        PacedMux x = new PacedMux(14, 200);
        for (int i = 0; i < 8; i++) {
            x.add(1, 1, 100 + i, 0);
        }
        x.tick(8);
        CHECK.due("stored", x.stored(1), 8);
        x.add(1, 1, 108, 0);
        x.add(2, 1, 109, 0);
        x.tick(2);
        CHECK.due("stream 1 waits", x.waiting(1), 1);
        CHECK.due("stream 2 does not", x.stored(2), 1);
    }

    private static void counters() {
        PacedMux x = new PacedMux(14, 200);
        int due = 0;
        for (int i = 0; i < 40; i++) {
            due = i + 2;
            x.add(0, 1, due, 0);
            x.tick(1);
            CHECK.due("counter " + i, x.packet(1), 128 + (i % 8 == 0 ? 64 : 0) + i % 16);
        }
        x.add(2, 1, due + 1, 0);
        x.tick(1);
        CHECK.due("each stream has its own", x.packet(1), 128 + 64 + 32);
        x.retune();
        x.add(0, 1, due + 5, 0);
        x.tick(1);
        CHECK.due("retune is not the sender's", x.packet(1), 128 + 8);
    }

    private static void lateInTheMiddle() {
        PacedMux x = new PacedMux(1, 200);
        x.add(0, 60, 3, 0);
        x.add(0, 8, 9, 1);
        x.tick(2);
        CHECK.due("23 bytes sent", x.levels(0), 23 * 32 + 22);
        x.tick(1);
        CHECK.due("t 2: no room", x.levels(0), 23 * 32 + 21);
        x.tick(1);
        CHECK.due("t 3: late, HIGH falls, the next starts", x.levels(0), 8 * 32 + 28);
        CHECK.packet("t 3", x, 71, 128 + 2, 8, 0, 9, 1, 8, 15, 22, 29, 36, 43, 50);
        CHECK.due("late", x.late(0), 1);
        CHECK.due("the broken one", x.count(2), 1);
    }

    /** A unit that goes at t makes room for the packet of t. */
    private static void storedGoesThenRoom() {
        PacedMux x = new PacedMux(14, 20);
        x.add(0, 9, 4, 0);
        x.add(0, 11, 5, 0);
        x.add(0, 9, 6, 0);
        x.tick(4);
        CHECK.due("full", x.levels(0), 20 * 32);
        x.tick(1);
        CHECK.due("at 4", x.levels(0), 20 * 32 + 9);
        x.tick(1);
        CHECK.due("at 5", x.levels(0), 9 * 32);
        x.tick(1);
        CHECK.due("at 6", x.levels(0), 0);
    }
}
