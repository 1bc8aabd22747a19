/** Promise 15: the bytes of the latest unit of a stream. */
public final class Promise15LetterTest {
    private static final Check CHECK = new Check();

    public static void main(String[] args) {
        PacedMux x = new PacedMux(14, 200);
        x.add(2, 60, 300, 200);
        x.add(2, 30, 301, 3);
        x.tick(4);
        CHECK.due("none arrived", x.letter(2, 0), PacedMux.BAD);
        x.tick(1);
        lettersAre(x, 60, 200);
        x.tick(2);
        lettersAre(x, 60, 200);
        x.tick(1);
        lettersAre(x, 30, 3);
        for (int bad : new int[] {-1, 3, Integer.MIN_VALUE, Integer.MAX_VALUE}) {
            CHECK.due("letter(" + bad + ", 0)", x.letter(bad, 0), PacedMux.BAD);
        }
        CHECK.due("letter(0, 0)", x.letter(0, 0), PacedMux.BAD);
        x.add(0, 9, 302, 9);
        x.tick(1);
        CHECK.due("letter(0, 8)", x.letter(0, 8), 65);
        lettersAre(x, 30, 3);
        CHECK.end();
    }

    private static void lettersAre(PacedMux x, int size, int seed) {
        for (int i = 0; i < size; i++) {
            CHECK.due("letter(2, " + i + ")", x.letter(2, i), (seed + 7 * i) % 256);
        }
        for (int i : new int[] {-1, size, 60, 61, Integer.MIN_VALUE, Integer.MAX_VALUE}) {
            CHECK.due("letter(2, " + i + ")", x.letter(2, i), PacedMux.BAD);
        }
    }
}
