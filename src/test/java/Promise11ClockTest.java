/** Promise 11: the receiver's clock. */
public final class Promise11ClockTest {
    private static final Check CHECK = new Check();

    public static void main(String[] args) {
        PacedMux x = new PacedMux(7, 100);
        CHECK.due("new", x.clock(), PacedMux.BAD);
        x.lose(1);
        x.tick(7);
        CHECK.due("no clock came", x.clock(), PacedMux.BAD);
        x.tick(1);
        CHECK.due("t 8", x.clock(), 8);
        x.tick(5);
        CHECK.due("t 13", x.clock(), 13);
        x.lose(1);
        CHECK.due("one lost", x.clock(), 13);
        x.tick(1);
        CHECK.due("t 15", x.clock(), 14);
        x.tick(1);
        CHECK.due("t 16", x.clock(), 16);
        for (int i = 0; i < 7; i++) {
            x.tick(40);
        }
        CHECK.due("t 296", x.clock(), 296);
        overTheEnd();
        ignoredOverTheEnd();
        CHECK.end();
    }

    private static void overTheEnd() {
        PacedMux x = new PacedMux(7, 100);
        x.spoil(2, 255);
        CHECK.due("255 * 256", x.clock(), 65280);
        x.tick(7);
        CHECK.due("seven on", x.clock(), 65287);
        x.spoil(3, 8 ^ 255);
        CHECK.due("255", x.clock(), 255);
        x.tick(1);
        CHECK.due("no carry is lost", x.clock(), 256);
    }

    /** One spoil can't make a clock of 65535, but a unit's bytes read as one can. */
    private static void ignoredOverTheEnd() {
        PacedMux x = new PacedMux(7, 100);
        x.tick(1);
        x.spoil(1, 64);
        CHECK.due("the rest's 255s read as a clock", x.clock(), 65535);
        x.tick(1);
        CHECK.due("0 after 65535", x.clock(), 0);
        x.spoil(1, 64);
        CHECK.due("again", x.clock(), 65535);
        x.spoil(0, 2);
        CHECK.due("0 after 65535, ignored", x.clock(), 0);
    }
}
