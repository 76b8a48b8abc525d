import java.util.NoSuchElementException;

/** Promises 25 to 37: operators, tickets and the rooms through which they go. */
public final class RoomsTest {
    private static final Class<IllegalArgumentException> BAD = IllegalArgumentException.class;
    private static final Class<IndexOutOfBoundsException> NO_SUCH = IndexOutOfBoundsException.class;
    private static final Class<IllegalStateException> STATE = IllegalStateException.class;
    private static final Class<UnsupportedOperationException> UNFIT = UnsupportedOperationException.class;
    private static final Class<NoSuchElementException> NONE = NoSuchElementException.class;

    public static void main(String[] args) {
        operators();
        tickets();
        minutes();
        sewing();
        sewingInBadState();
        sewingInOrder();
        roomsInTurn();
        roomsLeftOut();
        bottlenecks();
        stands();
        lasting();
        lots();
        soling();
        solingByGlue();
        takingOff();
        packing();
        Check.end();
    }

    private static Lastroom works(char construction, int upper, int sole) {
        Lastroom x = new Lastroom();
        x.model(2300, 50);
        x.style(0, construction, upper, sole);
        return x;
    }

    private static void operators() {
        Lastroom x = new Lastroom();
        Check.is(false, () -> x.setSkill(0, 3, true));
        Check.is(true, () -> x.setSkill(0, 3, true));
        Check.is(false, () -> x.setSkill(0, 2, false));
        Check.is(false, () -> x.setSkill(1, 3, false));
        Check.is(true, () -> x.setSkill(0, 3, false));
        Check.is(false, () -> x.setSkill(0, 3, false));
        Check.is(false, () -> x.setSkill(7, 0, true));
        Check.fails(NO_SUCH, () -> x.setSkill(-1, 4, true));
        Check.fails(NO_SUCH, () -> x.setSkill(8, 4, true));
        Check.fails(BAD, () -> x.setSkill(0, -1, true));
        Check.fails(BAD, () -> x.setSkill(0, 4, true));
        Check.is(false, () -> x.setAbsent(0, true));
        Check.is(true, () -> x.setAbsent(0, true));
        Check.is(true, () -> x.setAbsent(0, false));
        Check.is(false, () -> x.setAbsent(0, false));
        Check.is(false, () -> x.setAbsent(7, true));
        Check.fails(NO_SUCH, () -> x.setAbsent(-1, true));
        Check.fails(NO_SUCH, () -> x.setAbsent(8, true));
    }

    private static void tickets() {
        Lastroom x = new Lastroom();
        Check.fails(NO_SUCH, () -> x.ticket(0, 14));
        x.model(2300, 50);
        x.style(0, 'w', 0, 0);
        Check.fails(NO_SUCH, () -> x.ticket(1, 40));
        Check.fails(NO_SUCH, () -> x.ticket(-1, 40));
        Check.fails(BAD, () -> x.ticket(0, 14));
        Check.fails(BAD, () -> x.ticket(0, 51));
        Check.is(0, () -> x.ticket(0, 15));
        Check.is(1, () -> x.ticket(0, 50));
        for (int number = 2; number < 16; number++) {
            int due = number;
            Check.is(due, () -> x.ticket(0, 40));
        }
        Check.fails(STATE, () -> x.ticket(0, 40));
        Check.fails(BAD, () -> x.ticket(0, 51));
        Check.is('l', () -> x.room(15));
        Check.fails(NO_SUCH, () -> x.room(16));
        Check.fails(NO_SUCH, () -> x.room(-1));
    }

    private static void minutes() {
        Lastroom x = new Lastroom();
        Check.fails(BAD, () -> x.pass(0));
        Check.fails(BAD, () -> x.pass(-1));
        Check.fails(BAD, () -> x.pass(241));
        Check.is(1, () -> x.pass(1));
        Check.is(241, () -> x.pass(240));
        Check.is(243, () -> x.pass(2));
    }

    private static void sewing() {
        Lastroom x = works('w', 1, 0);
        x.seam(0, 3, 60, 0);
        Check.fails(NO_SUCH, () -> x.sew(0, 0, 0, 0));
        x.ticket(0, 40);
        x.setSkill(7, 3, true);
        Check.fails(NO_SUCH, () -> x.sew(-1, 0, 0, 7));
        Check.fails(NO_SUCH, () -> x.sew(1, 0, 0, 7));
        Check.fails(NO_SUCH, () -> x.sew(0, -1, 0, 7));
        Check.fails(NO_SUCH, () -> x.sew(0, 2, 0, 7));
        Check.fails(NO_SUCH, () -> x.sew(0, 0, -1, 7));
        Check.fails(NO_SUCH, () -> x.sew(0, 0, 1, 7));
        Check.fails(NO_SUCH, () -> x.sew(0, 0, 8, 7));
        Check.fails(NO_SUCH, () -> x.sew(0, 0, 0, -1));
        Check.fails(NO_SUCH, () -> x.sew(0, 0, 0, 8));
        x.pass(5);
        Check.is(65, () -> x.sew(0, 0, 0, 7));
        Check.fails(NONE, () -> x.sewerOf(0, 1, 0));
        // An operator who becomes absent goes on until the seam is done.
        x.setAbsent(7, true);
        x.setSkill(0, 3, true);
        Check.is(65, () -> x.sew(0, 1, 0, 0));
        x.pass(59);
        Check.is('s', () -> x.room(0));
        x.pass(1);
        Check.is('l', () -> x.room(0));
    }

    private static void sewingInBadState() {
        Lastroom x = works('w', 1, 0);
        x.piece(0, 1, 1, 20, 0, false);
        x.seam(0, 0, 10, 0);
        x.seam(0, 0, 20, 0);
        x.hide(1, 12, 10);
        for (int operator = 0; operator < 3; operator++) {
            x.setSkill(operator, 0, true);
        }
        x.ticket(0, 40);
        x.ticket(0, 40);
        Check.fails(STATE, () -> x.sew(0, 0, 0, 0));
        x.cut(0, 0, 0, 0, 0, 0, false, 0);
        Check.fails(STATE, () -> x.sew(0, 0, 0, 0));
        x.cut(0, 1, 0, 0, 1, 0, false, 0);
        // Of several, the state comes ahead of the skill that is missing.
        x.setAbsent(4, true);
        Check.fails(STATE, () -> x.sew(0, 0, 0, 4));
        Check.fails(UNFIT, () -> x.sew(0, 0, 0, 5));
        Check.fails(STATE, () -> x.sew(1, 0, 0, 5));
        Check.is(10, () -> x.sew(0, 0, 0, 0));
        Check.fails(STATE, () -> x.sew(0, 0, 0, 1));
        Check.fails(STATE, () -> x.sew(0, 0, 1, 1));
        Check.fails(STATE, () -> x.sew(0, 0, 1, 5));
        Check.fails(STATE, () -> x.sew(0, 1, 0, 0));
        Check.fails(STATE, () -> x.cut(1, 0, 0, 0, 2, 0, false, 0));
        Check.is(20, () -> x.sew(0, 1, 1, 1));
        x.pass(9);
        Check.fails(STATE, () -> x.sew(0, 0, 1, 2));
        x.pass(1);
        Check.fails(STATE, () -> x.sew(0, 0, 0, 2));
        Check.is(30, () -> x.sew(0, 0, 1, 0));
        Check.fails(STATE, () -> x.sew(0, 1, 0, 1));
        x.pass(10);
        Check.is(30, () -> x.sew(0, 1, 0, 1));
        Check.is('s', () -> x.room(0));
        x.pass(9);
        Check.is('s', () -> x.room(0));
        x.pass(1);
        Check.is('l', () -> x.room(0));
        Check.fails(STATE, () -> x.sew(0, 1, 0, 1));
        Check.fails(STATE, () -> x.sew(0, 1, 0, 5));
    }

    private static void sewingInOrder() {
        Lastroom x = works('w', 1, 0);
        x.seam(0, 0, 1, 0);
        x.seam(0, 1, 2, 0);
        x.seam(0, 0, 4, 3);
        x.setSkill(0, 0, true);
        x.setSkill(0, 1, true);
        x.setSkill(1, 0, true);
        x.ticket(0, 40);
        Check.fails(UNFIT, () -> x.sew(0, 0, 1, 1));
        Check.fails(UNFIT, () -> x.sew(0, 0, 2, 0));
        x.sew(0, 0, 1, 0);
        x.pass(2);
        Check.fails(UNFIT, () -> x.sew(0, 0, 2, 0));
        x.sew(0, 0, 0, 0);
        x.pass(1);
        // What was done of the left foot is not done of the right one.
        Check.fails(UNFIT, () -> x.sew(0, 1, 2, 0));
        Check.is(7, () -> x.sew(0, 0, 2, 1));
        x.setSkill(0, 1, false);
        Check.fails(UNFIT, () -> x.sew(0, 1, 1, 0));
        x.setSkill(0, 1, true);
        Check.is(5, () -> x.sew(0, 1, 1, 0));
    }

    private static void roomsInTurn() {
        Lastroom x = works('w', 1, 0);
        x.piece(0, 1, 1, 20, 0, false);
        x.seam(0, 0, 10, 0);
        x.hide(1, 12, 10);
        x.setSkill(0, 0, true);
        x.setSkill(1, 0, true);
        x.setLasts(0, 40, 1);
        Check.fails(NO_SUCH, () -> x.room(0));
        x.ticket(0, 40);
        Check.is('c', () -> x.room(0));
        Check.fails(STATE, () -> x.lastOn(0));
        x.cut(0, 1, 0, 0, 0, 0, false, 0);
        Check.is('c', () -> x.room(0));
        x.cut(0, 0, 0, 0, 1, 0, false, 0);
        Check.is('s', () -> x.room(0));
        Check.fails(STATE, () -> x.lastOn(0));
        x.sew(0, 0, 0, 0);
        Check.is('s', () -> x.room(0));
        x.pass(10);
        Check.is('s', () -> x.room(0));
        x.sew(0, 1, 0, 1);
        Check.is('s', () -> x.room(0));
        Check.fails(STATE, () -> x.lastOn(0));
        x.pass(10);
        Check.is('l', () -> x.room(0));
        Check.fails(STATE, () -> x.takeOff(0));
        x.lastOn(0);
        Check.is('o', () -> x.room(0));
        Check.fails(STATE, () -> x.lastOn(0));
        x.pass(30);
        Check.is('o', () -> x.room(0));
        Check.fails(STATE, () -> x.takeOff(0));
        x.sole(0, -1, false);
        Check.is('b', () -> x.room(0));
        Check.fails(STATE, () -> x.sole(0, -1, false));
        Check.fails(STATE, () -> x.pack(0, 0, 0));
        x.takeOff(0);
        Check.is('d', () -> x.room(0));
        Check.fails(STATE, () -> x.takeOff(0));
        Check.fails(STATE, () -> x.comeBack(0));
        x.pack(0, 0, 0);
        Check.is('p', () -> x.room(0));
        Check.fails(STATE, () -> x.pack(0, 0, 0));
        x.comeBack(0);
        Check.is('r', () -> x.room(0));
        Check.fails(STATE, () -> x.comeBack(0));
        Check.fails(STATE, () -> x.lastOn(0));
        Check.fails(STATE, () -> x.sew(0, 0, 0, 0));
    }

    private static void roomsLeftOut() {
        Lastroom x = works('w', 1, 0);
        x.ticket(0, 40);
        Check.is('l', () -> x.room(0));
        x.style(0, 'w', 1, 0);
        x.piece(1, 1, 1, 20, 0, false);
        x.ticket(1, 40);
        Check.is('c', () -> x.room(1));
        x.style(0, 'w', 1, 0);
        x.seam(2, 0, 1, 0);
        x.ticket(2, 40);
        Check.is('s', () -> x.room(2));
        x.hide(1, 2, 1);
        x.cut(1, 0, 0, 0, 0, 0, false, 0);
        x.cut(1, 1, 0, 0, 1, 0, false, 0);
        Check.is('l', () -> x.room(1));
    }

    private static void bottlenecks() {
        Lastroom x = works('w', 1, 0);
        x.seam(0, 0, 3, 0);
        x.seam(0, 1, 10, 0);
        x.seam(0, 3, 10, 0);
        x.style(0, 'w', 1, 0);
        x.piece(1, 1, 1, 20, 0, false);
        x.seam(1, 0, 1, 0);
        Check.fails(NONE, () -> x.bottleneck());
        x.ticket(0, 40);
        // Nobody has a skill: the lowest one with minutes.
        Check.is(0, () -> x.bottleneck());
        x.setSkill(0, 0, true);
        Check.is(1, () -> x.bottleneck());
        x.setSkill(0, 1, true);
        Check.is(3, () -> x.bottleneck());
        x.setSkill(0, 3, true);
        // 6, 20 and 20 minutes for one operator each.
        Check.is(1, () -> x.bottleneck());
        x.setSkill(1, 1, true);
        Check.is(3, () -> x.bottleneck());
        x.setAbsent(1, true);
        Check.is(1, () -> x.bottleneck());
        x.setAbsent(1, false);
        x.setSkill(2, 3, true);
        x.setSkill(3, 3, true);
        // 6, 20 by 2 and 20 by 3: 6, 10 and 6.
        Check.is(1, () -> x.bottleneck());
        x.setSkill(2, 1, true);
        // 6, 6 and 6, rounded down.
        Check.is(0, () -> x.bottleneck());
        // A busy operator is there.
        x.sew(0, 0, 0, 0);
        // 3, 6 and 6.
        Check.is(1, () -> x.bottleneck());
        x.sew(0, 1, 1, 1);
        // 3, 3 and 6.
        Check.is(3, () -> x.bottleneck());
        x.setAbsent(0, true);
        Check.is(0, () -> x.bottleneck());
        x.setAbsent(0, false);
        // A ticket in cutting counts too: 3 and 2 for each of 6 tickets.
        for (int ticket = 0; ticket < 6; ticket++) {
            x.ticket(1, 40);
        }
        Check.is(0, () -> x.bottleneck());
        Lastroom y = works('w', 1, 0);
        y.seam(0, 2, 1, 0);
        y.ticket(0, 40);
        for (int operator = 0; operator < 8; operator++) {
            y.setSkill(operator, 2, true);
        }
        // 2 minutes for 8 operators are some minutes still.
        Check.is(2, () -> y.bottleneck());
        y.sew(0, 0, 0, 0);
        Check.is(2, () -> y.bottleneck());
        y.sew(0, 1, 0, 1);
        Check.fails(NONE, () -> y.bottleneck());
    }

    private static void stands() {
        Lastroom x = new Lastroom();
        Check.fails(BAD, () -> x.setStand(-1, 1));
        Check.fails(BAD, () -> x.setStand(5, 1));
        Check.fails(BAD, () -> x.setStand(0, 0));
        Check.fails(BAD, () -> x.setStand(0, 241));
        for (int material = 0; material < 5; material++) {
            int number = material;
            Check.is(30, () -> x.setStand(number, 240));
            Check.is(240, () -> x.setStand(number, 1));
        }
        Check.is(1, () -> x.setStand(3, 7));
        Check.is(1, () -> x.setStand(2, 7));
    }

    private static void lasting() {
        Lastroom x = works('w', 1, 0);
        Check.fails(NO_SUCH, () -> x.lastOn(0));
        x.ticket(0, 40);
        x.ticket(0, 40);
        x.ticket(0, 41);
        Check.fails(NO_SUCH, () -> x.lastOn(3));
        Check.fails(NO_SUCH, () -> x.lastOn(-1));
        Check.fails(UNFIT, () -> x.lastOn(0));
        x.setLasts(0, 40, 1);
        Check.fails(UNFIT, () -> x.lastOn(2));
        Check.is(0, () -> x.lastOn(1));
        Check.fails(UNFIT, () -> x.lastOn(0));
        Check.is('l', () -> x.room(0));
        x.setLasts(0, 41, 9);
        Check.is(8, () -> x.lastOn(2));
        x.pass(30);
        x.sole(1, -1, false);
        Check.fails(UNFIT, () -> x.lastOn(0));
        x.takeOff(1);
        Check.is(0, () -> x.lastOn(0));
    }

    private static void lots() {
        Lastroom x = works('c', 1, 1);
        Check.fails(BAD, () -> x.open(0));
        Check.fails(BAD, () -> x.open(241));
        Check.is(0, () -> x.open(240));
        for (int number = 1; number < 20; number++) {
            int due = number;
            Check.is(due, () -> x.open(1));
        }
        Check.fails(STATE, () -> x.open(1));
        Check.fails(BAD, () -> x.open(0));
        x.setLasts(0, 40, 3);
        x.setStand(1, 1);
        for (int ticket = 0; ticket < 3; ticket++) {
            x.ticket(0, 40);
            x.lastOn(ticket);
        }
        x.pass(1);
        Check.is(true, () -> x.sole(0, 19, false));
        x.pass(1);
        Check.fails(STATE, () -> x.sole(1, 19, false));
        x.pass(238);
        Check.is(true, () -> x.sole(1, 0, false));
        x.pass(1);
        Check.fails(STATE, () -> x.sole(2, 0, false));
    }

    private static void soling() {
        Lastroom x = works('w', 1, 1);
        Check.fails(NO_SUCH, () -> x.sole(0, -1, false));
        x.style(0, 's', 0, 0);
        x.setLasts(0, 40, 9);
        x.ticket(0, 40);
        x.ticket(1, 40);
        x.open(240);
        x.open(10);
        Check.fails(NO_SUCH, () -> x.sole(2, -1, false));
        Check.fails(NO_SUCH, () -> x.sole(-1, -1, false));
        Check.fails(NO_SUCH, () -> x.sole(0, 2, false));
        Check.fails(NO_SUCH, () -> x.sole(0, -2, false));
        Check.fails(NO_SUCH, () -> x.sole(0, 20, false));
        Check.fails(STATE, () -> x.sole(0, -1, false));
        x.lastOn(0);
        x.lastOn(1);
        x.pass(29);
        Check.fails(STATE, () -> x.sole(0, -1, false));
        Check.fails(STATE, () -> x.sole(0, 0, false));
        x.pass(1);
        // A lot that is not open comes ahead of a lot that is not needed.
        Check.fails(STATE, () -> x.sole(0, 1, false));
        Check.fails(UNFIT, () -> x.sole(0, 0, false));
        Check.fails(UNFIT, () -> x.sole(1, 0, true));
        // The minutes are due as they are told by now.
        x.setStand(1, 40);
        Check.fails(STATE, () -> x.sole(0, -1, false));
        x.setStand(1, 30);
        Check.is(true, () -> x.sole(0, -1, false));
        Check.is(true, () -> x.sole(1, -1, true));
        Check.is('b', () -> x.room(1));
    }

    private static void solingByGlue() {
        Lastroom x = works('c', 1, 2);
        x.style(0, 'm', 0, 4);
        x.setLasts(0, 40, 9);
        for (int ticket = 0; ticket < 6; ticket++) {
            x.ticket(ticket < 3 ? 0 : 1, 40);
            x.lastOn(ticket);
        }
        x.pass(30);
        Check.fails(UNFIT, () -> x.sole(0, -1, true));
        Check.fails(UNFIT, () -> x.sole(3, -1, true));
        x.open(5);
        // 1 and 2 together are a multiple of 3, 0 and 4 are none.
        Check.is(false, () -> x.sole(0, 0, false));
        Check.is(true, () -> x.sole(1, 0, true));
        Check.is(true, () -> x.sole(3, 0, false));
        x.pass(5);
        Check.is(true, () -> x.sole(4, 0, true));
        x.pass(1);
        Check.fails(STATE, () -> x.sole(2, 0, true));
        Check.fails(STATE, () -> x.sole(5, 0, true));
        Check.fails(UNFIT, () -> x.sole(5, -1, true));
        Check.is(1, () -> x.open(1));
        Check.is(true, () -> x.sole(5, 1, true));
    }

    private static void takingOff() {
        Lastroom x = works('w', 1, 1);
        Check.fails(NO_SUCH, () -> x.takeOff(0));
        x.style(0, 'w', 1, 0);
        x.style(0, 'c', 1, 4);
        x.setLasts(0, 40, 4);
        x.setStand(1, 1);
        for (int style = 0; style < 3; style++) {
            x.ticket(style, 40);
            x.lastOn(style);
        }
        Check.fails(NO_SUCH, () -> x.takeOff(3));
        Check.fails(NO_SUCH, () -> x.takeOff(-1));
        x.open(240);
        x.pass(1);
        Check.fails(STATE, () -> x.takeOff(1));
        x.sole(0, -1, false);
        x.sole(1, -1, false);
        x.sole(2, 0, false);
        Check.is(2, () -> x.takeOff(1));
        Check.fails(STATE, () -> x.takeOff(1));
        x.pass(9);
        Check.fails(STATE, () -> x.takeOff(0));
        x.pass(1);
        Check.is(3, () -> x.takeOff(0));
        x.pass(29);
        Check.fails(STATE, () -> x.takeOff(2));
        x.pass(1);
        Check.is(4, () -> x.takeOff(2));
        Check.is(4, () -> x.freeLasts(0, 40));
    }

    private static void packing() {
        Lastroom x = works('s', 1, 0);
        Check.fails(NO_SUCH, () -> x.pack(0, -1, -1));
        x.setLasts(0, 40, 4);
        x.ticket(0, 40);
        Check.fails(NO_SUCH, () -> x.pack(1, 0, 0));
        Check.fails(NO_SUCH, () -> x.pack(-1, 0, 0));
        Check.fails(BAD, () -> x.pack(0, -1, 0));
        Check.fails(BAD, () -> x.pack(0, 101, 0));
        Check.fails(BAD, () -> x.pack(0, 0, -1));
        Check.fails(BAD, () -> x.pack(0, 0, 101));
        Check.fails(STATE, () -> x.pack(0, 100, 100));
        x.lastOn(0);
        x.pass(33);
        x.sole(0, -1, false);
        x.takeOff(0);
        Check.is(80, () -> x.test(0, 'b'));
        Check.is(93, () -> x.test(0, 'f'));
        Check.is(false, () -> x.pack(0, 81, 93));
        Check.is(false, () -> x.pack(0, 80, 94));
        Check.is('d', () -> x.room(0));
        Check.is(true, () -> x.pack(0, 80, 93));
        Check.is('p', () -> x.room(0));
        Check.fails(BAD, () -> x.pack(0, 101, 0));
        Check.fails(STATE, () -> x.pack(0, 0, 0));
    }
}
