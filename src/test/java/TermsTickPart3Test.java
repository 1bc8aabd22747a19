/** Terms, part 3 of a tick: the packet comes, is lost or is spoilt, and TIME goes on by 1. */
public final class TermsTickPart3Test {
    private static final Check CHECK = new Check();

    public static void main(String[] args) {
        timeGoesOn();
        for (int n : new int[] {0, 1, 2, 39, 40}) {
            manyAreAsSingleOnes(n);
        }
        spoiltByNoBits();
        for (int i = 0; i < 16; i++) {
            onlyOneByteIsSpoilt(i);
        }
        senderSeesNoDamage();
        CHECK.end();
    }

    private static void timeGoesOn() {
        PacedMux x = new PacedMux(14, 200);
        CHECK.due("tick(1)", x.tick(1), 1);
        CHECK.due("lose(1)", x.lose(1), 2);
        CHECK.due("spoil(0, 1)", x.spoil(0, 1), 3);
        CHECK.due("spoil(0, 0)", x.spoil(0, 0), 4);
        CHECK.due("tick(0)", x.tick(0), 4);
        CHECK.due("lose(0)", x.lose(0), 4);
        CHECK.due("tick(40)", x.tick(40), 44);
        CHECK.due("lose(40)", x.lose(40), 84);
    }

    private static PacedMux busy() {
        PacedMux x = new PacedMux(3, 60);
        for (int i = 0; i < 8; i++) {
            x.add(0, 12 + i, 12 + 6 * i, i);
            x.add(1, 30 - i, 9 + 5 * i, 100 + i);
            x.add(2, 1 + 4 * i, 7 + 4 * i, 200 + i);
        }
        x.tick(1);
        return x;
    }

    private static void manyAreAsSingleOnes(int n) {
        PacedMux x = busy();
        PacedMux y = busy();
        CHECK.due("tick(" + n + ")", x.tick(n), 1 + n);
        for (int i = 0; i < n; i++) {
            y.tick(1);
        }
        CHECK.alike("tick(" + n + ")", x, y);
        PacedMux v = busy();
        PacedMux w = busy();
        CHECK.due("lose(" + n + ")", v.lose(n), 1 + n);
        for (int i = 0; i < n; i++) {
            w.lose(1);
        }
        v.tick(3);
        w.tick(3);
        CHECK.alike("lose(" + n + ")", v, w);
    }

    private static void spoiltByNoBits() {
        for (int i = 0; i < 16; i++) {
            PacedMux x = busy();
            PacedMux y = busy();
            x.spoil(i, 0);
            y.tick(1);
            CHECK.alike("spoil(" + i + ", 0)", x, y);
        }
    }

    /** At t 0 bytes 2 and 3 are the clock, 4 to 6 the size and time due, 7 to 15 the unit. */
    private static void onlyOneByteIsSpoilt(int i) {
        PacedMux x = new PacedMux(14, 200);
        x.add(0, 9, 500, 40);
        x.spoil(i, 1);
        CHECK.packet("as it was sent", x,
                71, 192, 0, 0, 9, 1, 244, 40, 47, 54, 61, 68, 75, 82, 89, 96);
        CHECK.due("ignored", x.count(0), i == 0 ? 1 : 0);
        if (i == 0) {
            return;
        }
        CHECK.due("clock()", x.clock(), i == 2 ? 256 : i == 3 ? 1 : 0);
        CHECK.due("size", x.latest(0, 0), i == 4 ? 8 : 9);
        CHECK.due("due", x.latest(0, 1), i == 5 ? 244 : i == 6 ? 501 : 500);
        for (int k = 0; k < 8; k++) {
            int letter = 40 + 7 * k;
            CHECK.due("letter " + k, x.letter(0, k), i == 7 + k ? letter ^ 1 : letter);
        }
        CHECK.due("letter 8", x.letter(0, 8), i == 4 ? PacedMux.BAD : i == 15 ? 97 : 96);
    }

    /** What comes of a packet is nothing to the sending side. */
    private static void senderSeesNoDamage() {
        PacedMux x = busy();
        PacedMux y = busy();
        PacedMux z = busy();
        for (int i = 0; i < 20; i++) {
            x.tick(1);
            y.lose(1);
            z.spoil(i % 16, 255);
            for (int k = 0; k < 16; k++) {
                int want = x.packet(k);
                CHECK.due("a lost one is sent alike", y.packet(k), want);
                CHECK.due("a spoilt one is sent alike", z.packet(k), want);
            }
        }
        for (int s = 0; s < 3; s++) {
            int waiting = x.waiting(s);
            int stored = x.stored(s);
            int levels = x.levels(s);
            CHECK.stream("lost", y, s, levels / 32, levels % 32, waiting, stored);
            CHECK.stream("spoilt", z, s, levels / 32, levels % 32, waiting, stored);
            CHECK.due("late", y.late(s), x.late(s));
            CHECK.due("late", z.late(s), x.late(s));
        }
    }
}
