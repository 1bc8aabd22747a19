/** Compares answers with those that are due, and ends a test with 1 if one was wrong. */
final class Check {
    private int wrong;
    private int looked;

    void due(String call, int got, int want) {
        looked++;
        if (got != want) {
            wrong++;
            System.out.println(call + " answered " + got + ", due is " + want);
        }
    }

    /** Every byte of the packet of the latest tick. */
    void packet(String when, PacedMux x, int... want) {
        for (int i = 0; i < 16; i++) {
            due(when + ": packet(" + i + ")", x.packet(i), i < want.length ? want[i] : 255);
        }
    }

    /** The six counts of the receiver. */
    void counts(String when, PacedMux x, int... want) {
        for (int k = 0; k < 6; k++) {
            due(when + ": count(" + k + ")", x.count(k), want[k]);
        }
    }

    boolean isRight() {
        return wrong == 0;
    }

    void end() {
        if (wrong != 0) {
            System.out.println(wrong + " of " + looked + " answers are not as due");
            System.exit(1);
        }
    }
}
