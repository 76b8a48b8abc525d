import java.util.NoSuchElementException;

/** Promises 18 to 24: hides and cutting. */
public final class HidesTest {
    private static final Class<IllegalArgumentException> BAD = IllegalArgumentException.class;
    private static final Class<IndexOutOfBoundsException> NO_SUCH = IndexOutOfBoundsException.class;
    private static final Class<IllegalStateException> STATE = IllegalStateException.class;
    private static final Class<UnsupportedOperationException> UNFIT = UnsupportedOperationException.class;
    private static final Class<NoSuchElementException> NONE = NoSuchElementException.class;

    public static void main(String[] args) {
        hides();
        faults();
        cutsWithoutSuch();
        cutsInBadState();
        cutsThatDoNotFit();
        cutsTurned();
        cutsMatching();
        cutsKeepAllWhenTheyThrow();
        places();
        wastes();
        Check.end();
    }

    /** A style of the upper 1 without pieces, in a new works. */
    private static Lastroom works() {
        Lastroom x = new Lastroom();
        x.model(2300, 50);
        x.style(0, 'w', 1, 0);
        return x;
    }

    private static void hides() {
        Lastroom x = new Lastroom();
        Check.fails(BAD, () -> x.hide(-1, 1, 1));
        Check.fails(BAD, () -> x.hide(5, 1, 1));
        Check.fails(BAD, () -> x.hide(0, 0, 1));
        Check.fails(BAD, () -> x.hide(0, 13, 1));
        Check.fails(BAD, () -> x.hide(0, 1, 0));
        Check.fails(BAD, () -> x.hide(0, 1, 11));
        Check.is(0, () -> x.hide(0, 1, 1));
        Check.is(1, () -> x.hide(4, 12, 10));
        for (int number = 2; number < 6; number++) {
            int due = number;
            Check.is(due, () -> x.hide(0, 2, 2));
        }
        Check.fails(STATE, () -> x.hide(0, 2, 2));
        Check.fails(BAD, () -> x.hide(0, 13, 2));
        Check.is(3, () -> x.cellOf(1, 11, 9));
        Check.is(3, () -> x.cellOf(0, 0, 0));
    }

    private static void faults() {
        Lastroom x = works();
        Check.fails(NO_SUCH, () -> x.fault(0, 9, 9, 9));
        Check.fails(NO_SUCH, () -> x.cellOf(0, 9, 9));
        x.hide(1, 3, 2);
        x.hide(1, 3, 2);
        Check.fails(NO_SUCH, () -> x.fault(2, 0, 0, 0));
        Check.fails(NO_SUCH, () -> x.fault(-1, 0, 0, 0));
        Check.fails(NO_SUCH, () -> x.cellOf(2, 0, 0));
        Check.fails(NO_SUCH, () -> x.cellOf(-1, 0, 0));
        int[][] outside = {{-1, 0}, {3, 0}, {0, -1}, {0, 2}, {Integer.MAX_VALUE, 0}, {0, Integer.MIN_VALUE}};
        for (int[] cell : outside) {
            Check.fails(BAD, () -> x.fault(0, cell[0], cell[1], 0));
            Check.fails(BAD, () -> x.cellOf(0, cell[0], cell[1]));
        }
        Check.fails(BAD, () -> x.fault(0, 0, 0, -1));
        Check.fails(BAD, () -> x.fault(0, 0, 0, 4));
        Check.is(3, () -> x.fault(0, 2, 1, 0));
        Check.is(0, () -> x.fault(0, 2, 1, 2));
        Check.is(2, () -> x.cellOf(0, 2, 1));
        Check.is(2, () -> x.fault(0, 2, 1, 3));
        Check.is(3, () -> x.cellOf(0, 1, 1));
        Check.is(3, () -> x.cellOf(1, 2, 1));
        x.piece(0, 1, 1, 20, 0, false);
        x.ticket(0, 40);
        x.ticket(0, 40);
        Check.is(1, () -> x.cut(1, 0, 0, 0, 1, 0, false, 0));
        Check.is(11, () -> x.cellOf(0, 1, 0));
        Check.is(1, () -> x.cut(0, 0, 0, 0, 0, 1, false, 0));
        Check.is(10, () -> x.cellOf(0, 0, 1));
        Check.fails(STATE, () -> x.fault(0, 0, 1, 0));
        Check.fails(STATE, () -> x.fault(0, 1, 0, 0));
        Check.fails(BAD, () -> x.fault(0, 1, 0, 4));
        Check.is(11, () -> x.cellOf(0, 1, 0));
    }

    private static void cutsWithoutSuch() {
        Lastroom x = works();
        Check.fails(NO_SUCH, () -> x.cut(0, 0, 0, 0, 0, 0, false, 0));
        x.piece(0, 1, 1, 20, 0, false);
        x.ticket(0, 40);
        Check.fails(NO_SUCH, () -> x.cut(0, 0, 0, 0, 0, 0, false, 0));
        x.hide(1, 2, 2);
        Check.fails(NO_SUCH, () -> x.cut(-1, 0, 0, 0, 0, 0, false, 0));
        Check.fails(NO_SUCH, () -> x.cut(1, 0, 0, 0, 0, 0, false, 0));
        Check.fails(NO_SUCH, () -> x.cut(0, -1, 0, 0, 0, 0, false, 0));
        Check.fails(NO_SUCH, () -> x.cut(0, 2, 0, 0, 0, 0, false, 0));
        Check.fails(NO_SUCH, () -> x.cut(0, 0, -1, 0, 0, 0, false, 0));
        Check.fails(NO_SUCH, () -> x.cut(0, 0, 1, 0, 0, 0, false, 0));
        Check.fails(NO_SUCH, () -> x.cut(0, 0, 6, 0, 0, 0, false, 0));
        Check.fails(NO_SUCH, () -> x.cut(0, 0, 0, -1, 0, 0, false, 0));
        Check.fails(NO_SUCH, () -> x.cut(0, 0, 0, 1, 0, 0, false, 0));
        Check.fails(NO_SUCH, () -> x.cut(0, 0, 0, 0, 0, 0, false, -1));
        Check.fails(NO_SUCH, () -> x.cut(0, 0, 0, 0, 0, 0, false, 8));
        Check.is(1, () -> x.cut(0, 0, 0, 0, 0, 0, false, 7));
        // What there is not comes ahead of a piece that was cut.
        Check.fails(NO_SUCH, () -> x.cut(0, 0, 0, 0, 0, 0, false, 8));
        Check.fails(NO_SUCH, () -> x.cut(0, 0, 0, 1, 0, 0, false, 7));
    }

    private static void cutsInBadState() {
        Lastroom x = works();
        x.piece(0, 1, 1, 20, 0, true);
        x.style(0, 'w', 1, 0);
        x.seam(1, 0, 10, 0);
        x.hide(1, 4, 4);
        x.hide(2, 4, 4);
        x.ticket(0, 40);
        x.ticket(1, 40);
        x.setSkill(1, 0, true);
        x.setAbsent(0, true);
        Check.fails(STATE, () -> x.cut(0, 0, 0, 0, 0, 0, false, 0));
        // An absent operator comes ahead of all that does not fit.
        Check.fails(STATE, () -> x.cut(0, 0, 0, 1, 9, 9, true, 0));
        Check.is(10, () -> x.sew(1, 0, 0, 1));
        Check.fails(STATE, () -> x.cut(0, 0, 0, 0, 0, 0, false, 1));
        x.pass(9);
        Check.fails(STATE, () -> x.cut(0, 0, 0, 0, 0, 0, false, 1));
        x.pass(1);
        Check.is(1, () -> x.cut(0, 0, 0, 0, 0, 0, false, 1));
        Check.fails(STATE, () -> x.cut(0, 0, 0, 0, 1, 0, false, 1));
        Check.fails(STATE, () -> x.cut(0, 0, 0, 1, 9, 9, true, 1));
        x.setAbsent(0, false);
        // Cutting takes no time, so that an operator can cut again at once.
        x.ticket(0, 40);
        Check.is(1, () -> x.cut(0, 1, 0, 0, 1, 0, false, 0));
        Check.is(1, () -> x.cut(2, 1, 0, 0, 2, 0, false, 0));
        Check.is(2, () -> x.cutBy(0));
        Check.is(1, () -> x.cutBy(1));
        Check.is(0, () -> x.cutBy(7));
        Check.fails(NO_SUCH, () -> x.cutBy(-1));
        Check.fails(NO_SUCH, () -> x.cutBy(8));
    }

    private static void cutsThatDoNotFit() {
        Lastroom x = works();
        x.piece(0, 3, 2, 20, 2, true);
        x.hide(1, 5, 4);
        x.hide(2, 5, 4);
        x.ticket(0, 40);
        x.ticket(0, 40);
        Check.fails(UNFIT, () -> x.cut(0, 0, 0, 1, 0, 0, false, 0));
        Check.fails(UNFIT, () -> x.cut(0, 0, 0, 0, 0, 0, true, 0));
        Check.fails(UNFIT, () -> x.cut(0, 0, 0, 0, -1, 0, false, 0));
        Check.fails(UNFIT, () -> x.cut(0, 0, 0, 0, 0, -1, false, 0));
        Check.fails(UNFIT, () -> x.cut(0, 0, 0, 0, 3, 0, false, 0));
        Check.fails(UNFIT, () -> x.cut(0, 0, 0, 0, 0, 3, false, 0));
        Check.fails(UNFIT, () -> x.cut(0, 0, 0, 0, Integer.MAX_VALUE, 0, false, 0));
        Check.fails(UNFIT, () -> x.cut(0, 0, 0, 0, 0, Integer.MAX_VALUE, false, 0));
        Check.fails(UNFIT, () -> x.cut(0, 0, 0, 0, Integer.MIN_VALUE, Integer.MIN_VALUE, false, 0));
        x.fault(0, 0, 0, 1);
        x.fault(0, 4, 3, 1);
        Check.fails(UNFIT, () -> x.cut(0, 0, 0, 0, 0, 0, false, 0));
        Check.fails(UNFIT, () -> x.cut(0, 0, 0, 0, 2, 2, false, 0));
        x.fault(0, 1, 0, 2);
        Check.is(6, () -> x.cut(0, 0, 0, 0, 1, 0, false, 0));
        int[][] cells = {{0, 0, 1}, {1, 0, 10}, {2, 0, 10}, {3, 0, 10}, {4, 0, 3}, {0, 1, 3}, {1, 1, 10}, {2, 1, 10}, {3, 1, 10}, {4, 1, 3}, {1, 2, 3}, {3, 2, 3}};
        for (int[] cell : cells) {
            Check.is(cell[2], () -> x.cellOf(0, cell[0], cell[1]));
        }
        Check.fails(UNFIT, () -> x.cut(1, 0, 0, 0, 2, 1, false, 0));
        Check.is(6, () -> x.cut(1, 0, 0, 0, 0, 2, false, 0));
    }

    private static void cutsTurned() {
        Lastroom x = works();
        x.piece(0, 1, 3, 4, 3, false);
        x.hide(1, 5, 2);
        x.ticket(0, 44);
        x.ticket(0, 36);
        // At 44 it is 2 wide and 4 high: it lies in the hide turned alone.
        Check.fails(UNFIT, () -> x.cut(0, 0, 0, 0, 0, 0, false, 0));
        Check.is(8, () -> x.cut(0, 0, 0, 0, 1, 0, true, 0));
        Check.is(3, () -> x.cellOf(0, 0, 1));
        Check.is(10, () -> x.cellOf(0, 1, 0));
        Check.is(10, () -> x.cellOf(0, 4, 1));
        // At 36 it is 1 wide and 2 high.
        Check.fails(UNFIT, () -> x.cut(1, 1, 0, 0, 0, 0, true, 0));
        Check.is(2, () -> x.cut(1, 1, 0, 0, 0, 0, false, 0));
        Check.is(0, () -> x.waste(0));
    }

    private static void cutsMatching() {
        Lastroom x = works();
        x.piece(0, 1, 1, 20, 0, false);
        x.piece(0, 2, 1, 20, 0, false);
        x.hide(1, 6, 3);
        x.hide(1, 6, 3);
        x.ticket(0, 40);
        x.ticket(0, 40);
        x.fault(0, 0, 0, 1);
        x.fault(0, 1, 0, 1);
        x.fault(0, 2, 0, 2);
        x.fault(1, 0, 0, 1);
        x.fault(0, 0, 1, 1);
        x.fault(0, 1, 1, 2);
        x.fault(0, 5, 1, 1);
        x.fault(0, 3, 2, 2);
        Check.is(1, () -> x.cut(0, 1, 0, 0, 0, 0, false, 0));
        // Another hide, a better cell and a worse one are no match; the other pair is not asked.
        Check.fails(UNFIT, () -> x.cut(0, 0, 0, 1, 0, 0, false, 0));
        Check.fails(UNFIT, () -> x.cut(0, 0, 0, 0, 2, 0, false, 0));
        Check.fails(UNFIT, () -> x.cut(0, 0, 0, 0, 3, 0, false, 0));
        x.fault(0, 4, 0, 0);
        Check.fails(UNFIT, () -> x.cut(0, 0, 0, 0, 4, 0, false, 0));
        Check.is(1, () -> x.cut(1, 0, 0, 0, 2, 0, false, 0));
        Check.is(1, () -> x.cut(0, 0, 0, 0, 1, 0, false, 0));
        // The lesser quality of all cells counts, not that of the first or last one; another piece may be of another hide.
        Check.is(2, () -> x.cut(0, 0, 1, 0, 0, 1, false, 0));
        Check.fails(UNFIT, () -> x.cut(0, 1, 1, 0, 2, 2, false, 0));
        Check.is(2, () -> x.cut(0, 1, 1, 0, 4, 1, false, 0));
        Check.is(2, () -> x.cut(1, 1, 1, 1, 3, 0, false, 0));
        Check.is('l', () -> x.room(0));
        Check.is('c', () -> x.room(1));
        Check.is(true, () -> x.isSound());
    }

    private static void cutsKeepAllWhenTheyThrow() {
        Lastroom x = works();
        x.piece(0, 2, 2, 20, 2, true);
        x.hide(1, 3, 2);
        x.fault(0, 2, 1, 1);
        x.ticket(0, 40);
        long before = x.checksum();
        Check.fails(UNFIT, () -> x.cut(0, 0, 0, 0, 1, 0, false, 3));
        for (int column = 0; column < 3; column++) {
            int number = column;
            Check.is(3, () -> x.cellOf(0, number, 0));
        }
        Check.is(3, () -> x.cellOf(0, 1, 1));
        Check.is(1, () -> x.cellOf(0, 2, 1));
        Check.is(0, () -> x.cutBy(3));
        Check.is(before, () -> x.checksum());
        Check.fails(NONE, () -> x.hideOf(0, 0, 0));
    }

    private static void places() {
        Lastroom x = works();
        Check.fails(NO_SUCH, () -> x.firstPlace(0, 0, 0));
        x.piece(0, 2, 1, 20, 2, true);
        x.piece(0, 1, 3, 20, 0, false);
        x.hide(1, 3, 3);
        x.hide(2, 3, 3);
        x.hide(1, 12, 1);
        x.hide(1, 1, 10);
        x.ticket(0, 40);
        Check.fails(NO_SUCH, () -> x.firstPlace(1, 0, 0));
        Check.fails(NO_SUCH, () -> x.firstPlace(-1, 0, 0));
        Check.fails(NO_SUCH, () -> x.firstPlace(0, 2, 0));
        Check.fails(NO_SUCH, () -> x.firstPlace(0, -1, 0));
        Check.fails(NO_SUCH, () -> x.firstPlace(0, 0, 4));
        Check.fails(NO_SUCH, () -> x.firstPlace(0, 0, -1));
        Check.is(0, () -> x.firstPlace(0, 0, 0));
        Check.fails(NONE, () -> x.firstPlace(0, 0, 1));
        // A piece is not turned here: it fits into one row, or one column, alone.
        Check.is(0, () -> x.firstPlace(0, 0, 2));
        Check.fails(NONE, () -> x.firstPlace(0, 0, 3));
        Check.fails(NONE, () -> x.firstPlace(0, 1, 2));
        Check.is(0, () -> x.firstPlace(0, 1, 3));
        x.fault(0, 0, 0, 1);
        Check.is(1, () -> x.firstPlace(0, 0, 0));
        x.fault(0, 1, 0, 2);
        Check.is(1, () -> x.firstPlace(0, 0, 0));
        x.fault(0, 2, 0, 0);
        Check.is(100, () -> x.firstPlace(0, 0, 0));
        Check.is(0, () -> x.firstPlace(0, 1, 0));
        Check.is(2, () -> x.cut(0, 0, 0, 0, 0, 1, false, 0));
        // The left piece was cut by now, and the other foot is left aside.
        Check.is(200, () -> x.firstPlace(0, 0, 0));
        Check.is(2, () -> x.firstPlace(0, 1, 0));
        x.fault(0, 1, 2, 1);
        Check.fails(NONE, () -> x.firstPlace(0, 0, 0));
        for (int column = 0; column < 9; column++) {
            x.fault(2, column, 0, 0);
        }
        Check.is(9, () -> x.firstPlace(0, 0, 2));
        x.fault(2, 9, 0, 0);
        Check.is(10, () -> x.firstPlace(0, 0, 2));
        x.fault(2, 10, 0, 0);
        Check.fails(NONE, () -> x.firstPlace(0, 0, 2));
    }

    private static void wastes() {
        Lastroom x = works();
        Check.fails(NO_SUCH, () -> x.waste(0));
        Check.fails(ArithmeticException.class, () -> x.meanWaste());
        x.piece(0, 1, 1, 20, 0, false);
        x.piece(0, 2, 3, 20, 0, false);
        x.hide(1, 3, 1);
        Check.is(100, () -> x.waste(0));
        x.fault(0, 2, 0, 0);
        Check.is(100, () -> x.waste(0));
        x.ticket(0, 40);
        x.cut(0, 0, 0, 0, 0, 0, false, 0);
        Check.is(66, () -> x.waste(0));
        x.ticket(0, 40);
        x.cut(1, 0, 0, 0, 1, 0, false, 0);
        Check.is(33, () -> x.waste(0));
        x.hide(1, 12, 10);
        x.cut(0, 0, 1, 1, 0, 0, false, 0);
        Check.is(95, () -> x.waste(1));
        x.cut(0, 1, 1, 1, 2, 0, false, 0);
        x.cut(1, 1, 1, 1, 4, 0, false, 0);
        Check.is(85, () -> x.waste(1));
        Check.is(59.0, () -> x.meanWaste());
        x.hide(3, 1, 1);
        Check.is(218.0 / 3.0, () -> x.meanWaste());
        Check.fails(NO_SUCH, () -> x.waste(3));
        Check.fails(NO_SUCH, () -> x.waste(-1));
        Check.fails(NO_SUCH, () -> x.waste(6));
    }
}
