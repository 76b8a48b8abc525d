/** Promises 12 to 17: styles. */
public final class StylesTest {
    private static final Class<IllegalArgumentException> BAD = IllegalArgumentException.class;
    private static final Class<IndexOutOfBoundsException> NO_SUCH = IndexOutOfBoundsException.class;
    private static final Class<IllegalStateException> STATE = IllegalStateException.class;
    private static final Class<UnsupportedOperationException> UNFIT = UnsupportedOperationException.class;

    public static void main(String[] args) {
        soleRules();
        styles();
        pieces();
        seams();
        grading();
        shortestTimes();
        bonding();
        Check.end();
    }

    private static void soleRules() {
        String fitting = "w0 w1 s0 s1 s2 c1 c2 c3 c4 m3 m4";
        for (char construction : new char[] {'w', 's', 'c', 'm'}) {
            for (int sole = 0; sole < 5; sole++) {
                int number = sole;
                Lastroom x = new Lastroom();
                x.model(2000, 20);
                if (fitting.contains("" + construction + sole)) {
                    Check.is(0, () -> x.style(0, construction, 4, number));
                } else {
                    Check.fails(UNFIT, () -> x.style(0, construction, 0, number));
                }
            }
        }
    }

    private static void styles() {
        Lastroom x = new Lastroom();
        Check.fails(NO_SUCH, () -> x.style(0, 'x', 5, 5));
        x.model(2000, 20);
        Check.fails(NO_SUCH, () -> x.style(-1, 'w', 0, 0));
        Check.fails(NO_SUCH, () -> x.style(1, 'w', 0, 0));
        Check.fails(BAD, () -> x.style(0, 'x', 0, 0));
        Check.fails(BAD, () -> x.style(0, 'W', 0, 0));
        Check.fails(BAD, () -> x.style(0, 'w', -1, 0));
        Check.fails(BAD, () -> x.style(0, 'w', 5, 0));
        Check.fails(BAD, () -> x.style(0, 'w', 0, -1));
        Check.fails(BAD, () -> x.style(0, 'w', 0, 5));
        // A material that there is not comes ahead of a sole that does not fit.
        Check.fails(BAD, () -> x.style(0, 'w', 5, 4));
        for (int number = 0; number < 6; number++) {
            int due = number;
            Check.is(due, () -> x.style(0, 'c', 0, 1));
        }
        Check.fails(STATE, () -> x.style(0, 'c', 0, 1));
        Check.fails(UNFIT, () -> x.style(0, 'c', 0, 0));
        Check.fails(BAD, () -> x.style(0, 'x', 0, 1));
    }

    private static void pieces() {
        Lastroom x = new Lastroom();
        Check.fails(NO_SUCH, () -> x.piece(0, 9, 1, 1, 0, false));
        x.model(2000, 20);
        x.style(0, 'w', 0, 0);
        x.style(0, 'w', 0, 0);
        Check.fails(NO_SUCH, () -> x.piece(2, 1, 1, 1, 0, false));
        Check.fails(NO_SUCH, () -> x.piece(-1, 1, 1, 1, 0, false));
        Check.fails(BAD, () -> x.piece(0, 0, 1, 1, 0, false));
        Check.fails(BAD, () -> x.piece(0, 5, 1, 1, 0, false));
        Check.fails(BAD, () -> x.piece(0, 1, 0, 1, 0, false));
        Check.fails(BAD, () -> x.piece(0, 1, 5, 1, 0, false));
        Check.fails(BAD, () -> x.piece(0, 1, 1, 0, 0, false));
        Check.fails(BAD, () -> x.piece(0, 1, 1, 21, 0, false));
        Check.fails(BAD, () -> x.piece(0, 1, 1, 1, -1, false));
        Check.fails(BAD, () -> x.piece(0, 1, 1, 1, 4, false));
        Check.is(0, () -> x.piece(0, 1, 1, 1, 0, false));
        Check.is(1, () -> x.piece(0, 4, 4, 20, 3, true));
        for (int number = 2; number < 6; number++) {
            int due = number;
            Check.is(due, () -> x.piece(0, 1, 1, 1, 0, false));
        }
        Check.fails(STATE, () -> x.piece(0, 1, 1, 1, 0, false));
        Check.fails(BAD, () -> x.piece(0, 5, 1, 1, 0, false));
        Check.is(0, () -> x.piece(1, 1, 1, 1, 0, false));
        x.ticket(1, 40);
        Check.fails(STATE, () -> x.piece(1, 1, 1, 1, 0, false));
        Check.fails(BAD, () -> x.piece(1, 1, 1, 1, 4, false));
    }

    private static void seams() {
        Lastroom x = new Lastroom();
        Check.fails(NO_SUCH, () -> x.seam(0, 4, 0, 1));
        x.model(2000, 20);
        x.style(0, 'w', 0, 0);
        x.style(0, 'w', 0, 0);
        Check.fails(NO_SUCH, () -> x.seam(2, 0, 1, 0));
        Check.fails(NO_SUCH, () -> x.seam(-1, 0, 1, 0));
        Check.fails(BAD, () -> x.seam(0, -1, 1, 0));
        Check.fails(BAD, () -> x.seam(0, 4, 1, 0));
        Check.fails(BAD, () -> x.seam(0, 0, 0, 0));
        Check.fails(BAD, () -> x.seam(0, 0, 61, 0));
        Check.fails(BAD, () -> x.seam(0, 0, 1, 1));
        Check.fails(BAD, () -> x.seam(0, 0, 1, -1));
        Check.is(0, () -> x.seam(0, 0, 1, 0));
        Check.fails(BAD, () -> x.seam(0, 0, 1, 2));
        Check.fails(BAD, () -> x.seam(0, 0, 1, 3));
        Check.is(1, () -> x.seam(0, 3, 60, 1));
        Check.is(2, () -> x.seam(0, 3, 60, 3));
        Check.is(3, () -> x.seam(0, 3, 60, 5));
        for (int number = 4; number < 8; number++) {
            int due = number;
            Check.is(due, () -> x.seam(0, 0, 1, 0));
        }
        Check.fails(STATE, () -> x.seam(0, 0, 1, 255));
        Check.fails(BAD, () -> x.seam(0, 0, 1, 256));
        Check.fails(BAD, () -> x.seam(0, 0, 1, Integer.MIN_VALUE));
        Check.is(0, () -> x.seam(1, 0, 1, 0));
        x.ticket(1, 40);
        Check.fails(STATE, () -> x.seam(1, 0, 1, 1));
        Check.fails(BAD, () -> x.seam(1, 0, 1, 2));
    }

    private static void grading() {
        Lastroom x = new Lastroom();
        Check.fails(NO_SUCH, () -> x.pieceCells(0, 0, 14, false));
        x.model(2000, 20);
        x.style(0, 'w', 0, 0);
        Check.fails(NO_SUCH, () -> x.pieceCells(0, 0, 14, false));
        x.piece(0, 4, 3, 4, 0, true);
        x.piece(0, 4, 1, 1, 0, false);
        x.piece(0, 3, 4, 20, 0, false);
        Check.is(4, () -> x.pieceCells(0, 0, 40, false));
        Check.is(3, () -> x.pieceCells(0, 0, 40, true));
        Check.is(4, () -> x.pieceCells(0, 0, 43, false));
        Check.is(5, () -> x.pieceCells(0, 0, 44, false));
        Check.is(4, () -> x.pieceCells(0, 0, 44, true));
        Check.is(6, () -> x.pieceCells(0, 0, 50, false));
        Check.is(4, () -> x.pieceCells(0, 0, 37, false));
        Check.is(3, () -> x.pieceCells(0, 0, 36, false));
        Check.is(3, () -> x.pieceCells(0, 0, 33, false));
        Check.is(2, () -> x.pieceCells(0, 0, 32, false));
        Check.is(1, () -> x.pieceCells(0, 0, 32, true));
        Check.is(1, () -> x.pieceCells(0, 0, 28, true));
        Check.is(1, () -> x.pieceCells(0, 0, 15, false));
        Check.is(14, () -> x.pieceCells(0, 1, 50, false));
        Check.is(11, () -> x.pieceCells(0, 1, 50, true));
        Check.is(1, () -> x.pieceCells(0, 1, 15, false));
        Check.is(3, () -> x.pieceCells(0, 2, 50, false));
        Check.is(3, () -> x.pieceCells(0, 2, 21, false));
        Check.is(2, () -> x.pieceCells(0, 2, 20, false));
        Check.is(3, () -> x.pieceCells(0, 2, 15, true));
        Check.fails(BAD, () -> x.pieceCells(0, 0, 14, false));
        Check.fails(BAD, () -> x.pieceCells(0, 0, 51, false));
        Check.fails(NO_SUCH, () -> x.pieceCells(0, 3, 40, false));
        Check.fails(NO_SUCH, () -> x.pieceCells(0, -1, 40, false));
        Check.fails(NO_SUCH, () -> x.pieceCells(0, 6, 40, false));
        Check.fails(NO_SUCH, () -> x.pieceCells(1, 0, 40, false));
        Check.fails(NO_SUCH, () -> x.pieceCells(-1, 0, 40, false));
    }

    private static void shortestTimes() {
        Lastroom x = new Lastroom();
        Check.fails(NO_SUCH, () -> x.shortest(0));
        x.model(2000, 20);
        x.style(0, 'w', 0, 0);
        x.style(0, 'w', 0, 0);
        Check.is(0, () -> x.shortest(0));
        x.seam(0, 0, 10, 0);
        Check.is(10, () -> x.shortest(0));
        x.seam(0, 0, 25, 0);
        Check.is(25, () -> x.shortest(0));
        x.seam(0, 0, 5, 1);
        Check.is(25, () -> x.shortest(0));
        x.seam(0, 0, 12, 4);
        Check.is(27, () -> x.shortest(0));
        x.seam(0, 0, 3, 3);
        Check.is(28, () -> x.shortest(0));
        x.seam(0, 0, 1, 8 + 16);
        Check.is(29, () -> x.shortest(0));
        x.seam(0, 0, 30, 0);
        Check.is(30, () -> x.shortest(0));
        x.seam(0, 0, 60, 32 + 64);
        Check.is(90, () -> x.shortest(0));
        Check.is(0, () -> x.shortest(1));
        for (int number = 0; number < 8; number++) {
            x.seam(1, 0, 60, number == 0 ? 0 : 1 << number - 1);
        }
        Check.is(480, () -> x.shortest(1));
        Check.fails(NO_SUCH, () -> x.shortest(2));
        Check.fails(NO_SUCH, () -> x.shortest(-1));
        Check.fails(NO_SUCH, () -> x.shortest(6));
    }

    private static void bonding() {
        char[] constructions = {'w', 's', 'c', 'm'};
        for (char construction : constructions) {
            for (int upper = 0; upper < 5; upper++) {
                for (int sole = 0; sole < 5; sole++) {
                    boolean isGlued = construction == 'c' || construction == 'm';
                    boolean due = !isGlued || upper + sole != 0 && upper + sole != 3 && upper + sole != 6;
                    Lastroom x = new Lastroom();
                    x.model(2000, 20);
                    try {
                        x.style(0, construction, upper, sole);
                    } catch (UnsupportedOperationException e) {
                        continue;
                    }
                    Check.is(due, () -> x.bonds(0));
                }
            }
        }
        Lastroom x = new Lastroom();
        Check.fails(NO_SUCH, () -> x.bonds(0));
        Check.fails(NO_SUCH, () -> x.bonds(-1));
        Check.fails(NO_SUCH, () -> x.bonds(6));
    }
}
