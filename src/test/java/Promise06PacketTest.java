/** Promise 6: packet, and the form of each kind of packet. */
public final class Promise06PacketTest {
    private static final Check CHECK = new Check();

    public static void main(String[] args) {
        PacedMux x = new PacedMux(14, 200);
        for (int i = -1; i <= 16; i++) {
            CHECK.due("no tick yet", x.packet(i), PacedMux.BAD);
        }
        x.tick(0);
        x.lose(0);
        x.tick(41);
        x.lose(-1);
        x.spoil(16, 1);
        x.spoil(1, 256);
        x.retune();
        CHECK.due("still no tick", x.packet(0), PacedMux.BAD);
        x.add(1, 30, 700, 250);
        x.tick(1);
        for (int bad : new int[] {-1, 16, Integer.MIN_VALUE, Integer.MAX_VALUE}) {
            CHECK.due("packet(" + bad + ")", x.packet(bad), PacedMux.BAD);
        }
        CHECK.packet("a start with a clock", x,
                71, 208, 0, 0, 30, 2, 188, 250, 1, 8, 15, 22, 29, 36, 43, 50);
        x.tick(1);
        CHECK.packet("neither", x,
                71, 17, 57, 64, 71, 78, 85, 92, 99, 106, 113, 120, 127, 134, 141, 148);
        x.tick(1);
        CHECK.packet("the last bytes", x, 71, 18, 155, 162, 169, 176, 183, 190, 197);
        x.tick(1);
        CHECK.packet("nobody's", x, 71, 48);
        x.retune();
        CHECK.packet("retune leaves it", x, 71, 48);
        x.add(2, 2, 300, 0);
        x.tick(1);
        CHECK.packet("a start", x, 71, 160, 2, 1, 44, 0, 7);
        x.tick(4);
        CHECK.packet("nobody's, with a clock", x, 71, 112, 0, 8);
        x.add(0, 20, 100, 5);
        x.tick(7);
        x.add(0, 30, 101, 6);
        x.lose(1);
        CHECK.packet("a lost start with a clock", x,
                71, 194, 0, 16, 30, 0, 101, 6, 13, 20, 27, 34, 41, 48, 55, 62);
        laterClocks();
        clockInTheMiddle();
        firstTickOfEachKind();
        CHECK.end();
    }

    /** "there was no tick": a lost or spoilt one is a tick. */
    private static void firstTickOfEachKind() {
        PacedMux x = new PacedMux(14, 200);
        x.lose(1);
        CHECK.packet("a lost one", x, 71, 112, 0, 0);
        PacedMux y = new PacedMux(14, 200);
        y.spoil(0, 255);
        CHECK.packet("a spoilt one, as it was sent", y, 71, 112, 0, 0);
        y.spoil(15, 255);
        CHECK.packet("the latest", y, 71, 48);
        y.tick(0);
        y.lose(0);
        CHECK.packet("no ticks leave it", y, 71, 48);
        y.tick(7);
        CHECK.packet("the last of seven", y, 71, 112, 0, 8);
    }

    private static void laterClocks() {
        PacedMux x = new PacedMux(14, 200);
        for (int i = 0; i < 7; i++) {
            x.tick(40);
        }
        x.tick(1);
        CHECK.packet("t 280", x, 71, 112, 1, 24);
        x.tick(7);
        CHECK.packet("t 287", x, 71, 48);
        x.tick(1);
        CHECK.packet("t 288", x, 71, 112, 1, 32);
    }

    private static void clockInTheMiddle() {
        PacedMux x = new PacedMux(14, 200);
        x.tick(7);
        x.add(0, 30, 101, 0);
        x.tick(1);
        CHECK.packet("t 7", x, 71, 128, 30, 0, 101, 0, 7, 14, 21, 28, 35, 42, 49, 56, 63, 70);
        x.tick(1);
        CHECK.packet("t 8", x,
                71, 65, 0, 8, 77, 84, 91, 98, 105, 112, 119, 126, 133, 140, 147, 154);
        x.tick(1);
        CHECK.packet("t 9", x, 71, 2, 161, 168, 175, 182, 189, 196, 203);
    }
}
