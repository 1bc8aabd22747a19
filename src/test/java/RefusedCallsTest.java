import java.util.ArrayList;
import java.util.List;

/**
 * "A call that answers a negative number or false changes nothing": in each of several
 * states each call that is refused there is made on one of two objects that are alike.
 * They must show the same at once, and go on alike.
 */
public final class RefusedCallsTest {
    private static final Check CHECK = new Check();
    private static final int BAD = PacedMux.BAD;
    private static final int ORDER = PacedMux.ORDER;
    private static final int FULL = PacedMux.FULL;

    private interface Call {
        int on(PacedMux x);
    }

    private interface State {
        PacedMux reach();
    }

    private record Refused(String name, int code, Call call) {
    }

    public static void main(String[] args) {
        allWrong("new", RefusedCallsTest::fresh, wrongArguments());
        allWrong("waiting, no tick", RefusedCallsTest::waitingOnly, wrongArguments());
        allWrong("busy", RefusedCallsTest::busy, wrongArguments());
        allWrong("damaged", RefusedCallsTest::damaged, wrongArguments());
        allWrong("retuned", RefusedCallsTest::retuned, wrongArguments());
        allWrong("stored full", RefusedCallsTest::storedFull, wrongArguments());
        allWrong("waiting full", RefusedCallsTest::waitingFull, wrongArguments());
        allWrong("new", RefusedCallsTest::fresh, nothingToTell());
        allWrong("waiting, no tick", RefusedCallsTest::waitingOnly, nothingToTell());
        allWrong("busy", RefusedCallsTest::busy, wrongOrder());
        allWrong("damaged", RefusedCallsTest::damaged, wrongOrder());
        allWrong("retuned", RefusedCallsTest::retuned, wrongOrder());
        allWrong("waiting full", RefusedCallsTest::waitingFull, noRoom());
        allWrong("retuned", RefusedCallsTest::retuned, noneArrived());
        CHECK.end();
    }

    private static void allWrong(String name, State state, List<Refused> calls) {
        for (Refused refused : calls) {
            String when = name + ", " + refused.name();
            PacedMux x = state.reach();
            CHECK.due(when, refused.call().on(x), refused.code());
            CHECK.alike(when, x, state.reach());
            PacedMux y = state.reach();
            PacedMux z = state.reach();
            CHECK.due(when, refused.call().on(y), refused.code());
            CHECK.due(when + ", again", refused.call().on(y), refused.code());
            goOn(when, y, z);
        }
    }

    /** Both go on alike, and what is hidden (sent bytes, counters, latest dues) shows. */
    private static void goOn(String when, PacedMux got, PacedMux want) {
        int time = want.tick(0);
        for (int s = 0; s < 3; s++) {
            for (int due : new int[] {time + 1, time + 30, time + 90, time + 999}) {
                CHECK.due(when + ", then add", got.add(s, 12, due, 7), want.add(s, 12, due, 7));
            }
        }
        for (int i = 0; i < 24; i++) {
            passOne(got, i);
            passOne(want, i);
            CHECK.due(when + ", then packet(1)", got.packet(1), want.packet(1));
        }
        CHECK.alike(when + ", then", got, want);
    }

    /** The first ones are lost, so that the receiver's counters show as gaps. */
    private static void passOne(PacedMux x, int i) {
        if (i < 3) {
            x.lose(1);
        } else {
            x.tick(1);
        }
    }

    private static PacedMux fresh() {
        return new PacedMux(7, 100);
    }

    private static PacedMux waitingOnly() {
        PacedMux x = new PacedMux(7, 100);
        x.add(0, 20, 30, 1);
        x.add(1, 20, 30, 2);
        return x;
    }

    /** Some stored, one sent in part, one late; the last that each stream got is due at 300. */
    private static PacedMux busy() {
        PacedMux x = new PacedMux(5, 100);
        for (int s = 0; s < 3; s++) {
            x.add(s, 30, 5 + s, 1);
            x.add(s, 9, 40, 2);
            x.add(s, 25, 60, 3);
            x.add(s, 11, 80, 4);
            x.add(s, 40, 300, 5);
        }
        x.tick(17);
        return x;
    }

    private static PacedMux damaged() {
        PacedMux x = busy();
        x.spoil(0, 3);
        x.spoil(1, 5);
        x.spoil(2, 129);
        x.lose(1);
        x.tick(2);
        return x;
    }

    private static PacedMux retuned() {
        PacedMux x = busy();
        x.lose(2);
        x.retune();
        return x;
    }

    private static PacedMux storedFull() {
        PacedMux x = new PacedMux(14, 200);
        for (int s = 0; s < 3; s++) {
            for (int i = 0; i < 8; i++) {
                x.add(s, 1 + s, 60 + i, i);
            }
        }
        x.tick(24);
        return x;
    }

    /** Eight wait in each stream, the last of them due at 280; the first was sent in part. */
    private static PacedMux waitingFull() {
        PacedMux x = new PacedMux(1, 20);
        for (int s = 0; s < 3; s++) {
            for (int i = 0; i < 8; i++) {
                x.add(s, 50 + i, 210 + 10 * i, i);
            }
        }
        x.tick(5);
        return x;
    }

    private static List<Refused> wrongArguments() {
        List<Refused> calls = new ArrayList<>();
        for (int bad : Range.outside(0, 2)) {
            calls.add(new Refused("add, stream " + bad, BAD, x -> add(x, bad, 5, 500, 5)));
            calls.add(new Refused("waiting(" + bad + ")", BAD, x -> x.waiting(bad)));
            calls.add(new Refused("stored(" + bad + ")", BAD, x -> x.stored(bad)));
            calls.add(new Refused("levels(" + bad + ")", BAD, x -> x.levels(bad)));
            calls.add(new Refused("late(" + bad + ")", BAD, x -> x.late(bad)));
            calls.add(new Refused("latest(" + bad + ", 0)", BAD, x -> x.latest(bad, 0)));
            calls.add(new Refused("latest(0, " + bad + ")", BAD, x -> x.latest(0, bad)));
            calls.add(new Refused("letter(" + bad + ", 0)", BAD, x -> x.letter(bad, 0)));
        }
        for (int bad : Range.outside(1, 60)) {
            calls.add(new Refused("add, size " + bad, BAD, x -> add(x, 1, bad, 500, 5)));
        }
        for (int bad : Range.outside(0, 255)) {
            calls.add(new Refused("add, seed " + bad, BAD, x -> add(x, 1, 5, 500, bad)));
            calls.add(new Refused("spoil(1, " + bad + ")", BAD, x -> x.spoil(1, bad)));
        }
        for (int bad : Range.outside(0, 40)) {
            calls.add(new Refused("tick(" + bad + ")", BAD, x -> x.tick(bad)));
            calls.add(new Refused("lose(" + bad + ")", BAD, x -> x.lose(bad)));
        }
        for (int bad : Range.outside(0, 15)) {
            calls.add(new Refused("spoil(" + bad + ", 1)", BAD, x -> x.spoil(bad, 1)));
            calls.add(new Refused("packet(" + bad + ")", BAD, x -> x.packet(bad)));
        }
        for (int bad : Range.outside(0, 5)) {
            calls.add(new Refused("count(" + bad + ")", BAD, x -> x.count(bad)));
        }
        for (int bad : Range.outside(0, 59)) {
            calls.add(new Refused("letter(0, " + bad + ")", BAD, x -> x.letter(0, bad)));
        }
        for (int ahead : new int[] {-1, 0, 1001}) {
            calls.add(new Refused("add, due TIME + " + ahead, ORDER, x -> add(x, 2, 5, ahead, 5)));
        }
        for (int due : new int[] {Integer.MIN_VALUE, -1, 0, Integer.MAX_VALUE}) {
            calls.add(new Refused("add, due " + due, ORDER, x -> x.add(2, 5, due, 5)));
        }
        return calls;
    }

    private static int add(PacedMux x, int stream, int size, int ahead, int seed) {
        return x.add(stream, size, x.tick(0) + ahead, seed);
    }

    private static List<Refused> nothingToTell() {
        List<Refused> calls = noneArrived();
        for (int i : Range.inside(0, 15)) {
            calls.add(new Refused("packet(" + i + ")", BAD, x -> x.packet(i)));
        }
        return calls;
    }

    private static List<Refused> noneArrived() {
        List<Refused> calls = new ArrayList<>();
        calls.add(new Refused("clock()", BAD, x -> x.clock()));
        for (int s = 0; s < 3; s++) {
            int stream = s;
            for (int what = 0; what < 3; what++) {
                int asked = what;
                calls.add(new Refused("latest", BAD, x -> x.latest(stream, asked)));
            }
            calls.add(new Refused("letter", BAD, x -> x.letter(stream, 0)));
        }
        return calls;
    }

    /** Not after the unit added before, which is due at 300. */
    private static List<Refused> wrongOrder() {
        List<Refused> calls = new ArrayList<>();
        for (int s = 0; s < 3; s++) {
            int stream = s;
            for (int due : new int[] {100, 299, 300}) {
                calls.add(new Refused("add, due " + due, ORDER, x -> x.add(stream, 5, due, 5)));
            }
        }
        return calls;
    }

    private static List<Refused> noRoom() {
        List<Refused> calls = new ArrayList<>();
        for (int s = 0; s < 3; s++) {
            int stream = s;
            for (int due : new int[] {281, 282, 1004, 1005}) {
                calls.add(new Refused("add, due " + due, FULL, x -> x.add(stream, 5, due, 5)));
            }
            for (int due : new int[] {279, 280, 1006}) {
                calls.add(new Refused("add, due " + due, ORDER, x -> x.add(stream, 5, due, 5)));
            }
            calls.add(new Refused("add, size 61", BAD, x -> x.add(stream, 61, 281, 5)));
        }
        return calls;
    }
}
