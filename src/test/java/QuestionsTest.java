import java.util.List;

/**
 * What no call is told to change stays as it was: a question changes nothing, and a call
 * on one object is nothing to another.
 */
public final class QuestionsTest {
    private static final Check CHECK = new Check();

    public static void main(String[] args) {
        for (int ticks : new int[] {0, 1, 5, 17, 40}) {
            questionsChangeNothing(ticks);
        }
        answersStand();
        objectsHaveNothingInCommon();
        newOneBesideABusyOne();
        CHECK.end();
    }

    private static PacedMux busy(int ticks) {
        PacedMux x = new PacedMux(4, 70);
        for (int i = 0; i < 6; i++) {
            x.add(0, 8 + 3 * i, 9 + 7 * i, i);
            x.add(1, 26 - 2 * i, 11 + 6 * i, 50 + i);
            x.add(2, 2 + 5 * i, 6 + 9 * i, 150 + i);
        }
        x.tick(ticks);
        return x;
    }

    /** A view asks everything once; tick(0), lose(0) and packet are among the questions. */
    private static void questionsChangeNothing(int ticks) {
        PacedMux asked = busy(ticks);
        PacedMux quiet = busy(ticks);
        View.of(asked);
        asked.lose(0);
        for (int i = 0; i < 12; i++) {
            asked.tick(1);
            quiet.tick(1);
        }
        CHECK.alike("asked after " + ticks, asked, quiet);
    }

    private static void answersStand() {
        PacedMux x = busy(20);
        List<String> first = View.of(x);
        List<String> again = View.of(x);
        CHECK.due("the same again", again.equals(first) ? 1 : 0, 1);
    }

    /** Each of three goes its way, by turns, as it goes alone. */
    private static void objectsHaveNothingInCommon() {
        PacedMux x = busy(0);
        PacedMux y = busy(0);
        PacedMux z = busy(0);
        for (int i = 0; i < 20; i++) {
            x.tick(1);
            y.lose(1);
            z.spoil(i % 16, 16 + i);
        }
        y.retune();
        PacedMux xAlone = busy(0);
        xAlone.tick(20);
        PacedMux yAlone = busy(0);
        yAlone.lose(20);
        PacedMux zAlone = busy(0);
        for (int i = 0; i < 20; i++) {
            zAlone.spoil(i % 16, 16 + i);
        }
        CHECK.alike("ticks", x, xAlone);
        CHECK.alike("losses", y, yAlone);
        CHECK.alike("damage", z, zAlone);
    }

    private static void newOneBesideABusyOne() {
        PacedMux before = new PacedMux(4, 70);
        List<String> first = View.of(before);
        busy(33);
        List<String> later = View.of(new PacedMux(4, 70));
        CHECK.due("a later one is as an earlier one", later.equals(first) ? 1 : 0, 1);
        CHECK.alike("the one before is as it was", before, new PacedMux(4, 70));
    }
}
