import java.util.ArrayList;
import java.util.List;

/**
 * All that the questions show of an object, some 225 calls at most: an object has 512,
 * so a test takes no more than two views of it.
 */
final class View {
    private View() {
    }

    static List<String> of(PacedMux x) {
        List<String> seen = new ArrayList<>();
        seen.add("TIME " + x.tick(0));
        for (int i = 0; i < 16; i++) {
            seen.add("packet(" + i + ") " + x.packet(i));
        }
        for (int s = 0; s < 3; s++) {
            stream(seen, x, s);
        }
        seen.add("clock() " + x.clock());
        for (int k = 0; k < 6; k++) {
            seen.add("count(" + k + ") " + x.count(k));
        }
        return seen;
    }

    private static void stream(List<String> seen, PacedMux x, int s) {
        seen.add("waiting(" + s + ") " + x.waiting(s));
        seen.add("stored(" + s + ") " + x.stored(s));
        seen.add("levels(" + s + ") " + x.levels(s));
        seen.add("late(" + s + ") " + x.late(s));
        for (int what = 0; what < 3; what++) {
            seen.add("latest(" + s + ", " + what + ") " + x.latest(s, what));
        }
        int size = x.latest(s, 0);
        for (int i = 0; i <= size && i <= 60; i++) {
            seen.add("letter(" + s + ", " + i + ") " + x.letter(s, i));
        }
    }
}
