/** Promises 7 to 10: waiting, stored, levels and late of a stream. */
public final class Promise07To10StreamsTest {
    private static final Check CHECK = new Check();

    public static void main(String[] args) {
        wrongStreams();
        waiting();
        stored();
        levels();
        late();
        for (int s = 0; s < 3; s++) {
            emptyAndFull(s);
            greatestLevels(s);
            lateMoreThanEight(s);
        }
        CHECK.end();
    }

    private static void wrongStreams() {
        PacedMux x = new PacedMux(7, 100);
        for (int bad : new int[] {-1, 3, Integer.MIN_VALUE, Integer.MAX_VALUE}) {
            CHECK.due("waiting(" + bad + ")", x.waiting(bad), PacedMux.BAD);
            CHECK.due("stored(" + bad + ")", x.stored(bad), PacedMux.BAD);
            CHECK.due("levels(" + bad + ")", x.levels(bad), PacedMux.BAD);
            CHECK.due("late(" + bad + ")", x.late(bad), PacedMux.BAD);
        }
    }

    /** Rows of 0, 1, 7 and 8 units; the other streams have none. */
    private static void emptyAndFull(int s) {
        PacedMux x = new PacedMux(14, 200);
        for (int i = 0; i <= 8; i++) {
            CHECK.due("waiting", x.waiting(s), i);
            CHECK.due("stored", x.stored(s), 0);
            CHECK.due("waiting, another", x.waiting((s + 1) % 3), 0);
            x.add(s, 1, 500 + i, 0);
        }
        CHECK.due("the ninth was refused", x.waiting(s), 8);
        for (int i = 1; i <= 8; i++) {
            x.tick(1);
            CHECK.due("waiting", x.waiting(s), 8 - i);
            CHECK.due("stored", x.stored(s), i);
            CHECK.due("stored, another", x.stored((s + 2) % 3), 0);
        }
        x.add(s, 1, 508, 0);
        x.tick(1);
        CHECK.due("none more is stored", x.stored(s), 8);
        CHECK.due("it waits", x.waiting(s), 1);
    }

    /** HIGH * 32 + LOW: LOW at 28 with HIGH at 200, and HIGH at 0 with LOW above 0. */
    private static void greatestLevels(int s) {
        PacedMux x = new PacedMux(1, 200);
        for (int size : new int[] {60, 60, 50}) {
            x.add(s, size, 900 + x.waiting(s), 0);
        }
        x.tick(40);
        x.tick(40);
        x.tick(40);
        x.tick(40);
        x.tick(29);
        CHECK.stream("170 sent, LOW empty", x, s, 170, 0, 0, 3);
        x.add(s, 11, 910, 0);
        x.add(s, 11, 911, 0);
        x.add(s, 8, 912, 0);
        x.tick(3);
        CHECK.due("levels", x.levels(s), 200 * 32 + 28);
        PacedMux y = new PacedMux(1, 200);
        y.add(s, 60, 2, 0);
        y.tick(3);
        CHECK.due("a late one leaves LOW", y.levels(s), 21);
    }

    private static void lateMoreThanEight(int s) {
        PacedMux x = new PacedMux(14, 200);
        for (int i = 0; i < 20; i++) {
            CHECK.due("late", x.late(s), i);
            x.add(s, 60, x.tick(0) + 1, 0);
            x.tick(2);
        }
        CHECK.due("late", x.late(s), 20);
        CHECK.due("late, another", x.late((s + 1) % 3) + x.late((s + 2) % 3), 0);
    }

    private static void waiting() {
        PacedMux x = new PacedMux(14, 100);
        x.add(0, 10, 50, 0);
        x.add(0, 1, 51, 0);
        x.add(1, 1, 60, 0);
        CHECK.due("waiting(0)", x.waiting(0), 2);
        CHECK.due("waiting(1)", x.waiting(1), 1);
        CHECK.due("waiting(2)", x.waiting(2), 0);
        x.tick(1);
        CHECK.due("sent in part, it waits", x.waiting(0), 2);
        x.tick(1);
        CHECK.due("sent wholly", x.waiting(0), 1);
        x.tick(1);
        CHECK.due("waiting(0)", x.waiting(0), 0);
        CHECK.due("waiting(1)", x.waiting(1), 1);
        x.retune();
        CHECK.due("retune is not the sender's", x.waiting(1), 1);
    }

    private static void stored() {
        PacedMux x = new PacedMux(14, 100);
        x.add(2, 10, 4, 0);
        x.add(2, 1, 5, 0);
        x.tick(1);
        CHECK.due("sent in part", x.stored(2), 0);
        x.tick(1);
        CHECK.due("sent wholly", x.stored(2), 1);
        x.lose(1);
        CHECK.due("losses are not seen here", x.stored(2), 2);
        x.retune();
        x.tick(1);
        CHECK.due("until its time", x.stored(2), 2);
        x.tick(1);
        CHECK.due("at 4", x.stored(2), 1);
        x.tick(1);
        CHECK.due("at 5", x.stored(2), 0);
        CHECK.due("the others", x.stored(0) + x.stored(1), 0);
        CHECK.due("none was late", x.late(2), 0);
    }

    private static void levels() {
        PacedMux x = new PacedMux(3, 100);
        x.add(1, 10, 7, 0);
        x.tick(1);
        CHECK.due("9 bytes", x.levels(1), 9 * 32 + 9);
        x.tick(1);
        CHECK.due("10 bytes", x.levels(1), 10 * 32 + 7);
        x.tick(1);
        CHECK.due("LOW falls", x.levels(1), 10 * 32 + 4);
        x.tick(1);
        CHECK.due("LOW falls", x.levels(1), 10 * 32 + 1);
        x.retune();
        x.tick(1);
        CHECK.due("not below 0", x.levels(1), 10 * 32);
        x.tick(2);
        CHECK.due("HIGH stands", x.levels(1), 10 * 32);
        x.tick(1);
        CHECK.due("at 7 it falls", x.levels(1), 0);
        CHECK.due("the others", x.levels(0) + x.levels(2), 0);
    }

    private static void late() {
        PacedMux x = new PacedMux(14, 200);
        x.add(0, 60, 1, 0);
        x.add(1, 60, 1, 0);
        x.add(1, 60, 2, 0);
        x.add(1, 60, 1000, 0);
        x.tick(1);
        CHECK.due("none yet", x.late(0) + x.late(1) + x.late(2), 0);
        CHECK.due("stream 0 has sent", x.levels(0), 9 * 32 + 9);
        x.tick(1);
        CHECK.due("late(0)", x.late(0), 1);
        CHECK.due("its bytes are gone", x.levels(0), 0);
        CHECK.due("late(1), none of it sent", x.late(1), 1);
        CHECK.due("the next has started", x.levels(1), 11 * 32 + 11);
        x.tick(1);
        CHECK.due("late(1)", x.late(1), 2);
        CHECK.due("the third has started", x.levels(1), 11 * 32 + 11);
        CHECK.due("waiting(1)", x.waiting(1), 1);
        CHECK.due("late(2)", x.late(2), 0);
        x.retune();
        CHECK.due("retune is not the sender's", x.late(1), 2);
    }
}
