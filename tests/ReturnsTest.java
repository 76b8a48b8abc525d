import java.util.NoSuchElementException;

/** Promises 38 to 43: tests and returns. */
public final class ReturnsTest {
    private static final Class<IllegalArgumentException> BAD = IllegalArgumentException.class;
    private static final Class<IndexOutOfBoundsException> NO_SUCH = IndexOutOfBoundsException.class;
    private static final Class<IllegalStateException> STATE = IllegalStateException.class;
    private static final Class<NoSuchElementException> NONE = NoSuchElementException.class;

    public static void main(String[] args) {
        testsInBadState();
        bonds();
        flexes();
        flexesByCells();
        comingBack();
        causesInOrder();
        causesOfEachKind();
        causesInCommon();
        causesOfGlueAndSize();
        hidesAndSewers();
        Check.end();
    }

    private static void testsInBadState() {
        Lastroom x = new Lastroom();
        Check.fails(NO_SUCH, () -> x.test(0, 'x'));
        x.model(2300, 50);
        x.style(0, 'w', 1, 1);
        x.ticket(0, 40);
        x.setLasts(0, 40, 1);
        Check.fails(NO_SUCH, () -> x.test(1, 'b'));
        Check.fails(NO_SUCH, () -> x.test(-1, 'b'));
        Check.fails(BAD, () -> x.test(0, 'x'));
        Check.fails(BAD, () -> x.test(0, 'B'));
        Check.fails(STATE, () -> x.test(0, 'b'));
        x.lastOn(0);
        Check.fails(STATE, () -> x.test(0, 'f'));
        x.pass(30);
        x.sole(0, -1, false);
        Check.fails(STATE, () -> x.test(0, 'w'));
        x.pass(10);
        x.takeOff(0);
        Check.is(100, () -> x.test(0, 'b'));
        Check.fails(BAD, () -> x.test(0, 'x'));
        x.pack(0, 0, 0);
        Check.is(90, () -> x.test(0, 'f'));
        x.comeBack(0);
        Check.is(90, () -> x.test(0, 'w'));
    }

    private static void bonds() {
        int[] waits = {0, 1, 79, 80, 81, 200};
        int[] dues = {90, 89, 11, 10, 10, 10};
        for (int row = 0; row < waits.length; row++) {
            Lastroom x = new Lastroom();
            x.model(2300, 50);
            x.style(0, 'm', 0, 3);
            x.setStand(0, 1);
            x.setLasts(0, 40, 2);
            x.ticket(0, 40);
            x.ticket(0, 40);
            x.lastOn(0);
            x.lastOn(1);
            x.pass(1);
            x.open(240);
            if (waits[row] > 0) {
                x.pass(waits[row]);
            }
            int due = dues[row];
            Check.is(true, () -> x.sole(0, 0, true));
            Check.is(false, () -> x.sole(1, 0, false));
            x.pass(30);
            x.takeOff(0);
            x.takeOff(1);
            int flex = 60 + Math.min(40, 1 + waits[row]);
            Check.is(due, () -> x.test(0, 'b'));
            Check.is(flex, () -> x.test(0, 'f'));
            Check.is(due * flex / 100, () -> x.test(0, 'w'));
            Check.is(0, () -> x.test(1, 'b'));
            Check.is(flex, () -> x.test(1, 'f'));
            Check.is(0, () -> x.test(1, 'w'));
        }
    }

    private static void flexes() {
        int[] minutes = {1, 39, 40, 41, 100};
        int[] dues = {61, 99, 100, 100, 100};
        for (int row = 0; row < minutes.length; row++) {
            Lastroom x = new Lastroom();
            x.model(2300, 50);
            x.style(0, 's', 2, 0);
            x.setStand(2, 1);
            x.setLasts(0, 40, 1);
            x.ticket(0, 40);
            x.pass(7);
            x.lastOn(0);
            x.pass(minutes[row]);
            x.sole(0, -1, false);
            x.pass(50);
            x.takeOff(0);
            int due = dues[row];
            Check.is(80, () -> x.test(0, 'b'));
            Check.is(due, () -> x.test(0, 'f'));
            Check.is(due * 80 / 100, () -> x.test(0, 'w'));
        }
    }

    private static void flexesByCells() {
        Lastroom x = new Lastroom();
        x.model(2300, 50);
        x.style(0, 'w', 1, 0);
        x.piece(0, 2, 1, 20, 0, true);
        x.piece(0, 1, 1, 20, 0, true);
        x.hide(1, 2, 10);
        x.setStand(1, 1);
        x.setLasts(0, 40, 9);
        for (int quality = 0; quality < 4; quality++) {
            // One cell of the left foot and one of the right one are of the quality, all others are better.
            int ticket = x.ticket(0, 40);
            int first = 2 * quality;
            x.fault(0, 1, first, quality);
            x.fault(0, 0, first + 1, quality);
            x.cut(ticket, 0, 0, 0, 0, first, false, 0);
            x.cut(ticket, 1, 0, 0, 0, first + 1, false, 0);
            if (quality == 0) {
                x.hide(1, 12, 1);
            }
            x.cut(ticket, 0, 1, 1, first, 0, false, 0);
            x.cut(ticket, 1, 1, 1, first + 1, 0, false, 0);
            x.lastOn(ticket);
            x.pass(5);
            x.sole(ticket, -1, false);
            x.takeOff(ticket);
            int due = 20 * quality + 5;
            Check.is(due, () -> x.test(ticket, 'f'));
            Check.is(due, () -> x.test(ticket, 'w'));
        }
        // The second piece can be the lesser one too.
        int ticket = x.ticket(0, 40);
        x.fault(1, 8, 0, 1);
        x.fault(1, 9, 0, 1);
        x.cut(ticket, 0, 0, 0, 0, 8, false, 0);
        x.cut(ticket, 1, 0, 0, 0, 9, false, 0);
        x.cut(ticket, 0, 1, 1, 8, 0, false, 0);
        x.cut(ticket, 1, 1, 1, 9, 0, false, 0);
        x.lastOn(ticket);
        x.pass(1);
        x.sole(ticket, -1, false);
        x.takeOff(ticket);
        Check.is(21, () -> x.test(ticket, 'f'));
    }

    private static void comingBack() {
        Lastroom x = new Lastroom();
        Check.fails(NO_SUCH, () -> x.comeBack(0));
        Check.fails(NONE, () -> x.cause());
        Check.fails(NONE, () -> x.causeOf());
        x.model(2300, 50);
        x.style(0, 'w', 1, 0);
        finish(x, 0, 40, 0, -1);
        finish(x, 0, 41, 0, -1);
        x.ticket(0, 40);
        Check.fails(NONE, () -> x.cause());
        Check.fails(STATE, () -> x.comeBack(2));
        Check.fails(NO_SUCH, () -> x.comeBack(3));
        Check.fails(NO_SUCH, () -> x.comeBack(-1));
        Check.is(1, () -> x.comeBack(1));
        Check.is('z', () -> x.cause());
        Check.is(41, () -> x.causeOf());
        Check.fails(STATE, () -> x.comeBack(1));
        Check.is(2, () -> x.comeBack(0));
        Check.fails(NONE, () -> x.cause());
        Check.fails(NONE, () -> x.causeOf());
    }

    /** Adds a pair of a style without seams, cuts its pieces out of a hide row by row, and packs it. */
    private static int finish(Lastroom x, int style, int size, int hide, int lot) {
        return finishBy(x, style, size, hide, lot, new int[] {0, 0, 0});
    }

    /** As above; the seam 0, if there is one, is sewn by the operators of both feet. */
    private static int finishBy(Lastroom x, int style, int size, int hide, int lot, int[] operators) {
        int ticket = x.ticket(style, size);
        if (x.room(ticket) == 'c') {
            for (int foot = 0; foot < 2; foot++) {
                int place = x.firstPlace(ticket, 0, hide);
                x.cut(ticket, foot, 0, hide, place % 100, place / 100, false, operators[0]);
            }
        }
        if (x.room(ticket) == 's') {
            x.sew(ticket, 0, 0, operators[1]);
            x.pass(1);
            x.sew(ticket, 1, 0, operators[2]);
            x.pass(1);
        }
        x.setLasts(0, size, 9);
        x.setStand(1, 1);
        x.lastOn(ticket);
        x.pass(1);
        x.sole(ticket, lot, true);
        x.pass(40);
        x.takeOff(ticket);
        x.pack(ticket, 0, 0);
        return ticket;
    }

    private static void due(Lastroom x, char kind, int number) {
        Check.is(kind, () -> x.cause());
        Check.is(number, () -> x.causeOf());
    }

    /** A style 0 with a piece and a seam, a style 1 with a piece, and a style 2 with a seam; three hides, all can sew. */
    private static Lastroom works(char construction, int sole) {
        Lastroom x = new Lastroom();
        x.model(2300, 50);
        for (int style = 0; style < 3; style++) {
            x.style(0, construction, 1, sole);
            if (style != 2) {
                x.piece(style, 1, 1, 20, 0, false);
            }
            if (style != 1) {
                x.seam(style, 0, 1, 0);
            }
        }
        for (int operator = 0; operator < 8; operator++) {
            x.setSkill(operator, 0, true);
        }
        for (int hide = 0; hide < 3; hide++) {
            x.hide(1, 12, 10);
        }
        return x;
    }

    private static void causesInOrder() {
        Lastroom x = works('c', 1);
        x.open(240);
        finishBy(x, 0, 40, 1, 0, new int[] {2, 4, 3});
        x.comeBack(0);
        // All that it has is had by no packed pair: the first kind.
        due(x, 'h', 1);
        finishBy(x, 1, 41, 1, x.open(240), new int[] {5, 0, 0});
        due(x, 'k', 2);
        finishBy(x, 1, 41, 2, x.open(240), new int[] {2, 0, 0});
        // Of both sewers the lower one, though it sewed the right foot.
        due(x, 's', 3);
        finishBy(x, 2, 41, 0, x.open(240), new int[] {0, 3, 7});
        due(x, 's', 4);
        finishBy(x, 2, 41, 0, x.open(240), new int[] {0, 7, 4});
        due(x, 'g', 0);
        Lastroom y = works('w', 1);
        finishBy(y, 0, 40, 1, -1, new int[] {2, 3, 3});
        finishBy(y, 0, 41, 1, -1, new int[] {2, 3, 3});
        y.comeBack(0);
        due(y, 'z', 40);
        finishBy(y, 0, 40, 0, -1, new int[] {0, 0, 0});
        // One packed pair each: the hide is the first kind again.
        due(y, 'h', 1);
        finishBy(y, 1, 42, 1, -1, new int[] {6, 0, 0});
        due(y, 'k', 2);
    }

    private static void causesOfEachKind() {
        Lastroom x = works('w', 0);
        finishBy(x, 0, 15, 2, -1, new int[] {7, 7, 7});
        x.comeBack(0);
        due(x, 'h', 2);
        finishBy(x, 0, 16, 2, -1, new int[] {7, 6, 6});
        due(x, 's', 7);
        finishBy(x, 0, 16, 2, -1, new int[] {6, 7, 6});
        due(x, 'z', 15);
        x.comeBack(1);
        // In common: the hide 2 and the cutter 7; the third pair has the hide alone.
        due(x, 'k', 7);
        x.comeBack(2);
        due(x, 'h', 2);
        finishBy(x, 2, 15, 0, -1, new int[] {0, 0, 0});
        x.comeBack(3);
        Check.fails(NONE, () -> x.cause());
        Check.fails(NONE, () -> x.causeOf());
    }

    private static void causesInCommon() {
        Lastroom x = works('w', 0);
        finishBy(x, 0, 40, 0, -1, new int[] {0, 1, 2});
        finishBy(x, 0, 41, 1, -1, new int[] {3, 2, 4});
        x.comeBack(0);
        due(x, 'h', 0);
        x.comeBack(1);
        due(x, 's', 2);
        finishBy(x, 2, 42, 0, -1, new int[] {0, 5, 2});
        due(x, 's', 2);
        finishBy(x, 0, 50, 0, -1, new int[] {0, 5, 2});
        x.comeBack(2);
        due(x, 's', 2);
        x.comeBack(3);
        due(x, 's', 2);
        finish(x, 1, 50, 2, -1);
        x.comeBack(4);
        Check.fails(NONE, () -> x.causeOf());
    }

    private static void causesOfGlueAndSize() {
        Lastroom x = new Lastroom();
        x.model(2300, 50);
        x.style(0, 'c', 1, 1);
        x.style(0, 'w', 1, 1);
        for (int lot = 0; lot < 20; lot++) {
            x.open(240);
        }
        finish(x, 0, 50, 0, 19);
        finish(x, 1, 50, 0, -1);
        x.comeBack(0);
        due(x, 'g', 19);
        x.comeBack(1);
        due(x, 'z', 50);
        Lastroom y = new Lastroom();
        y.model(2300, 50);
        y.style(0, 'w', 1, 1);
        finish(y, 0, 30, 0, -1);
        finish(y, 0, 31, 0, -1);
        y.comeBack(0);
        // A pair that was soled by no lot has none in common with another.
        due(y, 'z', 30);
        y.comeBack(1);
        Check.fails(NONE, () -> y.cause());
    }

    private static void hidesAndSewers() {
        Lastroom x = works('w', 0);
        Check.fails(NO_SUCH, () -> x.hideOf(0, 0, 0));
        Check.fails(NO_SUCH, () -> x.sewerOf(0, 0, 0));
        x.ticket(0, 40);
        int[][] missing = {{-1, 0, 0}, {1, 0, 0}, {0, -1, 0}, {0, 2, 0}, {0, 0, -1}, {0, 0, 1}, {0, 0, 8}};
        for (int[] row : missing) {
            Check.fails(NO_SUCH, () -> x.hideOf(row[0], row[1], row[2]));
            Check.fails(NO_SUCH, () -> x.sewerOf(row[0], row[1], row[2]));
        }
        Check.fails(NONE, () -> x.hideOf(0, 0, 0));
        Check.fails(NONE, () -> x.hideOf(0, 1, 0));
        x.cut(0, 1, 0, 2, 0, 0, false, 0);
        Check.fails(NONE, () -> x.hideOf(0, 0, 0));
        Check.is(2, () -> x.hideOf(0, 1, 0));
        x.cut(0, 0, 0, 2, 1, 0, false, 0);
        Check.is(2, () -> x.hideOf(0, 0, 0));
        Check.fails(NONE, () -> x.sewerOf(0, 0, 0));
        x.sew(0, 1, 0, 7);
        Check.fails(NONE, () -> x.sewerOf(0, 0, 0));
        Check.is(7, () -> x.sewerOf(0, 1, 0));
        x.sew(0, 0, 0, 0);
        Check.is(0, () -> x.sewerOf(0, 0, 0));
        x.pass(1);
        Check.is(7, () -> x.sewerOf(0, 1, 0));
    }
}
