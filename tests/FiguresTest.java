/** Promises 1 and 44 to 47: a new object, and the figures. */
public final class FiguresTest {
    private static final Class<ArithmeticException> ARITHMETIC = ArithmeticException.class;
    private static final Class<IndexOutOfBoundsException> NO_SUCH = IndexOutOfBoundsException.class;
    private static final Class<java.util.NoSuchElementException> NONE = java.util.NoSuchElementException.class;

    public static void main(String[] args) {
        newObject();
        twoObjects();
        checksums();
        greatChecksum();
        shares();
        Check.end();
    }

    private static void newObject() {
        Lastroom x = new Lastroom();
        Check.fails(NO_SUCH, () -> x.girth(0, 40));
        Check.fails(NO_SUCH, () -> x.shortest(0));
        Check.fails(NO_SUCH, () -> x.waste(0));
        Check.fails(NO_SUCH, () -> x.room(0));
        Check.fails(NONE, () -> x.bestModel(2600, 2300));
        Check.fails(NONE, () -> x.bottleneck());
        Check.fails(NONE, () -> x.cause());
        for (int operator = 0; operator < 8; operator++) {
            int number = operator;
            Check.is(0, () -> x.cutBy(number));
            Check.is(false, () -> x.setAbsent(number, false));
            for (int skill = 0; skill < 4; skill++) {
                int which = skill;
                Check.is(false, () -> x.setSkill(number, which, false));
            }
        }
        Check.is(0, () -> x.checksum() == 0L ? 0 : 1);
        Check.fails(ARITHMETIC, () -> x.packedShare());
        Check.fails(ARITHMETIC, () -> x.meanWaste());
        Check.is(true, () -> x.isSound());
        Check.is(5, () -> x.pass(5));
    }

    private static void twoObjects() {
        Lastroom x = new Lastroom();
        Lastroom y = new Lastroom();
        x.model(2300, 50);
        x.pass(7);
        x.setStand(0, 5);
        x.setSkill(0, 0, true);
        Check.fails(NO_SUCH, () -> y.girth(0, 40));
        Check.is(3, () -> y.pass(3));
        Check.is(30, () -> y.setStand(0, 5));
        Check.is(false, () -> y.setSkill(0, 0, true));
    }

    private static void checksums() {
        Lastroom x = new Lastroom();
        x.model(2300, 50);
        x.style(0, 'w', 1, 0);
        x.piece(0, 1, 1, 20, 0, false);
        x.seam(0, 0, 5, 0);
        x.hide(1, 4, 1);
        x.setSkill(0, 0, true);
        x.setSkill(1, 0, true);
        x.setLasts(0, 40, 1);
        x.ticket(0, 40);
        Check.is(99L, () -> x.checksum());
        x.cut(0, 1, 0, 0, 0, 0, false, 0);
        Check.is(99L + 7, () -> x.checksum());
        x.cut(0, 0, 0, 0, 1, 0, false, 0);
        Check.is(115L + 14, () -> x.checksum());
        x.sew(0, 1, 0, 0);
        Check.is(115L + 21, () -> x.checksum());
        x.sew(0, 0, 0, 1);
        Check.is(115L + 28, () -> x.checksum());
        x.pass(5);
        Check.is(108L + 28, () -> x.checksum());
        x.lastOn(0);
        Check.is(111L + 28, () -> x.checksum());
        x.pass(30);
        x.sole(0, -1, false);
        Check.is(98L + 28, () -> x.checksum());
        x.takeOff(0);
        Check.is(100L + 28, () -> x.checksum());
        x.pack(0, 0, 0);
        Check.is(112L + 28, () -> x.checksum());
        x.comeBack(0);
        Check.is(114L + 28, () -> x.checksum());
        x.ticket(0, 40);
        Check.is(142L * 31 + 99, () -> x.checksum());
        x.cut(1, 0, 0, 0, 2, 0, false, 0);
        Check.is(142L * 31 + 106, () -> x.checksum());
        x.ticket(0, 40);
        Check.is((142L * 31 + 106) * 31 + 99, () -> x.checksum());
        Check.is(true, () -> x.isSound());
    }

    /** With 16 tickets the sum passes the greatest long, and goes round. */
    private static void greatChecksum() {
        Lastroom x = new Lastroom();
        x.model(2300, 50);
        x.style(0, 'w', 1, 0);
        long due = 0;
        for (int ticket = 0; ticket < 16; ticket++) {
            x.ticket(0, 40);
            due = 31 * due + 'l';
        }
        long sum = due;
        Check.is(sum, () -> x.checksum());
    }

    private static void shares() {
        Lastroom x = new Lastroom();
        x.model(2300, 50);
        x.style(0, 'w', 1, 0);
        x.setLasts(0, 40, 3);
        x.ticket(0, 40);
        Check.is(0.0f, () -> x.packedShare());
        x.lastOn(0);
        x.pass(30);
        x.sole(0, -1, false);
        x.takeOff(0);
        Check.is(0.0f, () -> x.packedShare());
        x.pack(0, 0, 0);
        Check.is(1.0f, () -> x.packedShare());
        x.ticket(0, 40);
        x.ticket(0, 40);
        Check.is(1.0f / 3.0f, () -> x.packedShare());
        x.comeBack(0);
        Check.is(1.0f / 3.0f, () -> x.packedShare());
        for (int ticket = 3; ticket < 7; ticket++) {
            x.ticket(0, 40);
        }
        Check.is(1.0f / 7.0f, () -> x.packedShare());
        Check.is(true, () -> x.isSound());
    }
}
