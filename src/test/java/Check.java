import java.util.List;

/** Compares answers with those that are due, and ends a test with 1 if one was wrong. */
final class Check {
    private int wrong;
    private int looked;

    void due(String call, int got, int want) {
        looked++;
        if (got != want) {
            wrong++;
            System.out.println(call + " answered " + got + ", due is " + want);
        }
    }

    /** Every byte of the packet of the latest tick. */
    void packet(String when, PacedMux x, int... want) {
        for (int i = 0; i < 16; i++) {
            due(when + ": packet(" + i + ")", x.packet(i), i < want.length ? want[i] : 255);
        }
    }

    /** The six counts of the receiver. */
    void counts(String when, PacedMux x, int... want) {
        for (int k = 0; k < 6; k++) {
            due(when + ": count(" + k + ")", x.count(k), want[k]);
        }
    }

    /** LOW and HIGH of a stream, and how many units it has waiting and stored. */
    void stream(String when, PacedMux x, int s, int high, int low, int waiting, int stored) {
        due(when + ": levels(" + s + ")", x.levels(s), high * 32 + low);
        due(when + ": waiting(" + s + ")", x.waiting(s), waiting);
        due(when + ": stored(" + s + ")", x.stored(s), stored);
    }

    /** The latest unit of a stream, with every byte of it and the places around it. */
    void latest(String when, PacedMux x, int s, int size, int dueTime, int seed) {
        due(when + ": latest(" + s + ", 0)", x.latest(s, 0), size);
        due(when + ": latest(" + s + ", 1)", x.latest(s, 1), dueTime);
        for (int i = 0; i < size; i++) {
            due(when + ": letter(" + s + ", " + i + ")", x.letter(s, i), (seed + 7 * i) % 256);
        }
        due(when + ": letter(" + s + ", -1)", x.letter(s, -1), PacedMux.BAD);
        due(when + ": letter(" + s + ", " + size + ")", x.letter(s, size), PacedMux.BAD);
    }

    /** Two objects show the same; the first difference is told. */
    void alike(String when, PacedMux got, PacedMux want) {
        List<String> gotView = View.of(got);
        List<String> wantView = View.of(want);
        looked++;
        if (gotView.equals(wantView)) {
            return;
        }
        wrong++;
        for (int i = 0; i < Math.min(gotView.size(), wantView.size()); i++) {
            if (!gotView.get(i).equals(wantView.get(i))) {
                System.out.println(when + ": " + gotView.get(i) + ", due is " + wantView.get(i));
                return;
            }
        }
        System.out.println(when + ": one shows more than the other");
    }

    boolean isRight() {
        return wrong == 0;
    }

    void end() {
        if (wrong != 0) {
            System.out.println(wrong + " of " + looked + " answers are not as due");
            System.exit(1);
        }
    }
}
